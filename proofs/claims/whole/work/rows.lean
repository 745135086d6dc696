section
-- ===== PART A: goes FIRST, ahead of the names: the tables' words, and 'selects' of the private methods out of them =====
/-- a private method of a class that the tables say can be made, by its rows of tables_1 -/
def lw_okq (q : MethodName × Nat) : Prop := (q.1.cls ≠ "java/lang/invoke/MethodHandle" ∧ q.1.cls ≠ "java/lang/invoke/VarHandle") ∧ Cond.instantiable q.1.cls q.2 ∈ tables_1 ∧ Cond.privateMethod q.1 ∈ tables_1 ∧ Cond.instanceMethod q.1 ∈ tables_1
theorem lw_p0 : lw_okq (⟨"Ghostracer", "rideAgain", "(LGhostracer$Lap;I)V"⟩, 9) := ⟨⟨by decide +kernel, by decide +kernel⟩, List.mem_of_getElem? (i := 19) (by decide +kernel), List.mem_of_getElem? (i := 269) (by decide +kernel), List.mem_of_getElem? (i := 270) (by decide +kernel)⟩
theorem lw_p1 : lw_okq (⟨"Ghostracer", "trackNumbered", "(I)LGhostracer$Track;"⟩, 9) := ⟨⟨by decide +kernel, by decide +kernel⟩, List.mem_of_getElem? (i := 19) (by decide +kernel), List.mem_of_getElem? (i := 273) (by decide +kernel), List.mem_of_getElem? (i := 274) (by decide +kernel)⟩
theorem lw_p2 : lw_okq (⟨"java/lang/Throwable", "fillInStackTrace", "(I)Ljava/lang/Throwable;"⟩, 6) := ⟨⟨by decide +kernel, by decide +kernel⟩, List.mem_of_getElem? (i := 317) (by decide +kernel), List.mem_of_getElem? (i := 315) (by decide +kernel), List.mem_of_getElem? (i := 316) (by decide +kernel)⟩
theorem lw_p3 : lw_okq (⟨"Ghostracer", "carNumbered", "(I)LGhostracer$Car;"⟩, 9) := ⟨⟨by decide +kernel, by decide +kernel⟩, List.mem_of_getElem? (i := 19) (by decide +kernel), List.mem_of_getElem? (i := 347) (by decide +kernel), List.mem_of_getElem? (i := 348) (by decide +kernel)⟩
theorem lw_p4 : lw_okq (⟨"Ghostracer$Ride", "move", "(CLGhostracer$Track;LGhostracer$Car;)V"⟩, 5) := ⟨⟨by decide +kernel, by decide +kernel⟩, List.mem_of_getElem? (i := 31) (by decide +kernel), List.mem_of_getElem? (i := 356) (by decide +kernel), List.mem_of_getElem? (i := 357) (by decide +kernel)⟩
theorem lw_p5 : lw_okq (⟨"Ghostracer$Ride", "finish", "(I)V"⟩, 5) := ⟨⟨by decide +kernel, by decide +kernel⟩, List.mem_of_getElem? (i := 31) (by decide +kernel), List.mem_of_getElem? (i := 370) (by decide +kernel), List.mem_of_getElem? (i := 371) (by decide +kernel)⟩
theorem lw_p6 : lw_okq (⟨"Ghostracer", "requireDriver", "(I)V"⟩, 9) := ⟨⟨by decide +kernel, by decide +kernel⟩, List.mem_of_getElem? (i := 19) (by decide +kernel), List.mem_of_getElem? (i := 513) (by decide +kernel), List.mem_of_getElem? (i := 514) (by decide +kernel)⟩
theorem lw_p7 : lw_okq (⟨"Ghostracer", "rideTyped", "(LGhostracer$Track;LGhostracer$Car;)V"⟩, 9) := ⟨⟨by decide +kernel, by decide +kernel⟩, List.mem_of_getElem? (i := 19) (by decide +kernel), List.mem_of_getElem? (i := 524) (by decide +kernel), List.mem_of_getElem? (i := 525) (by decide +kernel)⟩
theorem lw_p8 : lw_okq (⟨"Ghostracer$Book", "store", "(LGhostracer$Lap;I)V"⟩, 2) := ⟨⟨by decide +kernel, by decide +kernel⟩, List.mem_of_getElem? (i := 60) (by decide +kernel), List.mem_of_getElem? (i := 543) (by decide +kernel), List.mem_of_getElem? (i := 544) (by decide +kernel)⟩
theorem lw_p9 : lw_okq (⟨"Ghostracer$Book", "settleDepth", "(LGhostracer$Lap;)V"⟩, 2) := ⟨⟨by decide +kernel, by decide +kernel⟩, List.mem_of_getElem? (i := 60) (by decide +kernel), List.mem_of_getElem? (i := 551) (by decide +kernel), List.mem_of_getElem? (i := 552) (by decide +kernel)⟩
theorem lw_p10 : lw_okq (⟨"Ghostracer", "lapNumbered", "(I)LGhostracer$Lap;"⟩, 9) := ⟨⟨by decide +kernel, by decide +kernel⟩, List.mem_of_getElem? (i := 19) (by decide +kernel), List.mem_of_getElem? (i := 569) (by decide +kernel), List.mem_of_getElem? (i := 570) (by decide +kernel)⟩
theorem lw_p11 : lw_okq (⟨"Ghostracer$Book", "restsOn", "(II)Z"⟩, 2) := ⟨⟨by decide +kernel, by decide +kernel⟩, List.mem_of_getElem? (i := 60) (by decide +kernel), List.mem_of_getElem? (i := 667) (by decide +kernel), List.mem_of_getElem? (i := 668) (by decide +kernel)⟩
theorem lw_p12 : lw_okq (⟨"Ghostracer", "findLap", "(II)I"⟩, 9) := ⟨⟨by decide +kernel, by decide +kernel⟩, List.mem_of_getElem? (i := 19) (by decide +kernel), List.mem_of_getElem? (i := 737) (by decide +kernel), List.mem_of_getElem? (i := 738) (by decide +kernel)⟩
theorem lw_p13 : lw_okq (⟨"Ghostracer$Season", "score", "(LGhostracer$Book;II)V"⟩, 8) := ⟨⟨by decide +kernel, by decide +kernel⟩, List.mem_of_getElem? (i := 139) (by decide +kernel), List.mem_of_getElem? (i := 779) (by decide +kernel), List.mem_of_getElem? (i := 780) (by decide +kernel)⟩
theorem lw_p14 : lw_okq (⟨"Ghostracer$Season", "takeLeast", "(I)I"⟩, 8) := ⟨⟨by decide +kernel, by decide +kernel⟩, List.mem_of_getElem? (i := 139) (by decide +kernel), List.mem_of_getElem? (i := 786) (by decide +kernel), List.mem_of_getElem? (i := 787) (by decide +kernel)⟩
theorem lw_p15 : lw_okq (⟨"Ghostracer$Season", "isAheadInSeason", "(II)Z"⟩, 8) := ⟨⟨by decide +kernel, by decide +kernel⟩, List.mem_of_getElem? (i := 139) (by decide +kernel), List.mem_of_getElem? (i := 809) (by decide +kernel), List.mem_of_getElem? (i := 810) (by decide +kernel)⟩
def lw_privs_1 : List (MethodName × Nat) := [(⟨"Ghostracer", "rideAgain", "(LGhostracer$Lap;I)V"⟩, 9), (⟨"Ghostracer", "trackNumbered", "(I)LGhostracer$Track;"⟩, 9), (⟨"java/lang/Throwable", "fillInStackTrace", "(I)Ljava/lang/Throwable;"⟩, 6), (⟨"Ghostracer", "carNumbered", "(I)LGhostracer$Car;"⟩, 9), (⟨"Ghostracer$Ride", "move", "(CLGhostracer$Track;LGhostracer$Car;)V"⟩, 5), (⟨"Ghostracer$Ride", "finish", "(I)V"⟩, 5), (⟨"Ghostracer", "requireDriver", "(I)V"⟩, 9), (⟨"Ghostracer", "rideTyped", "(LGhostracer$Track;LGhostracer$Car;)V"⟩, 9), (⟨"Ghostracer$Book", "store", "(LGhostracer$Lap;I)V"⟩, 2), (⟨"Ghostracer$Book", "settleDepth", "(LGhostracer$Lap;)V"⟩, 2), (⟨"Ghostracer", "lapNumbered", "(I)LGhostracer$Lap;"⟩, 9), (⟨"Ghostracer$Book", "restsOn", "(II)Z"⟩, 2), (⟨"Ghostracer", "findLap", "(II)I"⟩, 9), (⟨"Ghostracer$Season", "score", "(LGhostracer$Book;II)V"⟩, 8), (⟨"Ghostracer$Season", "takeLeast", "(I)I"⟩, 8), (⟨"Ghostracer$Season", "isAheadInSeason", "(II)Z"⟩, 8)]
theorem lw_r1 : ∀ q ∈ lw_privs_1, lw_okq q := List.forall_mem_cons.mpr ⟨lw_p0, List.forall_mem_cons.mpr ⟨lw_p1, List.forall_mem_cons.mpr ⟨lw_p2, List.forall_mem_cons.mpr ⟨lw_p3, List.forall_mem_cons.mpr ⟨lw_p4, List.forall_mem_cons.mpr ⟨lw_p5, List.forall_mem_cons.mpr ⟨lw_p6, List.forall_mem_cons.mpr ⟨lw_p7, List.forall_mem_cons.mpr ⟨lw_p8, List.forall_mem_cons.mpr ⟨lw_p9, List.forall_mem_cons.mpr ⟨lw_p10, List.forall_mem_cons.mpr ⟨lw_p11, List.forall_mem_cons.mpr ⟨lw_p12, List.forall_mem_cons.mpr ⟨lw_p13, List.forall_mem_cons.mpr ⟨lw_p14, List.forall_mem_cons.mpr ⟨lw_p15, fun _ h => absurd h List.not_mem_nil⟩⟩⟩⟩⟩⟩⟩⟩⟩⟩⟩⟩⟩⟩⟩⟩
theorem lw_p16 : lw_okq (⟨"GhostracerModel", "fails", "(I)Z"⟩, 32) := ⟨⟨by decide +kernel, by decide +kernel⟩, List.mem_of_getElem? (i := 830) (by decide +kernel), List.mem_of_getElem? (i := 942) (by decide +kernel), List.mem_of_getElem? (i := 943) (by decide +kernel)⟩
theorem lw_p17 : lw_okq (⟨"GhostracerModel", "isNoTrack", "(I)Z"⟩, 32) := ⟨⟨by decide +kernel, by decide +kernel⟩, List.mem_of_getElem? (i := 830) (by decide +kernel), List.mem_of_getElem? (i := 950) (by decide +kernel), List.mem_of_getElem? (i := 951) (by decide +kernel)⟩
theorem lw_p18 : lw_okq (⟨"GhostracerModel", "lengthNow", "(I)I"⟩, 32) := ⟨⟨by decide +kernel, by decide +kernel⟩, List.mem_of_getElem? (i := 830) (by decide +kernel), List.mem_of_getElem? (i := 957) (by decide +kernel), List.mem_of_getElem? (i := 958) (by decide +kernel)⟩
theorem lw_p19 : lw_okq (⟨"GhostracerModel", "limitNow", "(II)I"⟩, 32) := ⟨⟨by decide +kernel, by decide +kernel⟩, List.mem_of_getElem? (i := 830) (by decide +kernel), List.mem_of_getElem? (i := 973) (by decide +kernel), List.mem_of_getElem? (i := 974) (by decide +kernel)⟩
theorem lw_p20 : lw_okq (⟨"GhostracerModel", "isNoCar", "(I)Z"⟩, 32) := ⟨⟨by decide +kernel, by decide +kernel⟩, List.mem_of_getElem? (i := 830) (by decide +kernel), List.mem_of_getElem? (i := 989) (by decide +kernel), List.mem_of_getElem? (i := 990) (by decide +kernel)⟩
theorem lw_p21 : lw_okq (⟨"GhostracerModel", "isGhost", "(II)Z"⟩, 32) := ⟨⟨by decide +kernel, by decide +kernel⟩, List.mem_of_getElem? (i := 830) (by decide +kernel), List.mem_of_getElem? (i := 993) (by decide +kernel), List.mem_of_getElem? (i := 994) (by decide +kernel)⟩
theorem lw_p22 : lw_okq (⟨"GhostracerModel", "isNoLap", "(I)Z"⟩, 32) := ⟨⟨by decide +kernel, by decide +kernel⟩, List.mem_of_getElem? (i := 830) (by decide +kernel), List.mem_of_getElem? (i := 997) (by decide +kernel), List.mem_of_getElem? (i := 998) (by decide +kernel)⟩
theorem lw_p23 : lw_okq (⟨"GhostracerModel", "canDrive", "(II)Z"⟩, 32) := ⟨⟨by decide +kernel, by decide +kernel⟩, List.mem_of_getElem? (i := 830) (by decide +kernel), List.mem_of_getElem? (i := 1001) (by decide +kernel), List.mem_of_getElem? (i := 1002) (by decide +kernel)⟩
theorem lw_p24 : lw_okq (⟨"GhostracerModel", "drives", "(II)V"⟩, 32) := ⟨⟨by decide +kernel, by decide +kernel⟩, List.mem_of_getElem? (i := 830) (by decide +kernel), List.mem_of_getElem? (i := 1005) (by decide +kernel), List.mem_of_getElem? (i := 1006) (by decide +kernel)⟩
theorem lw_p25 : lw_okq (⟨"GhostracerModel", "starts", "()V"⟩, 32) := ⟨⟨by decide +kernel, by decide +kernel⟩, List.mem_of_getElem? (i := 830) (by decide +kernel), List.mem_of_getElem? (i := 1009) (by decide +kernel), List.mem_of_getElem? (i := 1010) (by decide +kernel)⟩
theorem lw_p26 : lw_okq (⟨"GhostracerModel", "goes", "(IIC)V"⟩, 32) := ⟨⟨by decide +kernel, by decide +kernel⟩, List.mem_of_getElem? (i := 830) (by decide +kernel), List.mem_of_getElem? (i := 1013) (by decide +kernel), List.mem_of_getElem? (i := 1014) (by decide +kernel)⟩
theorem lw_p27 : lw_okq (⟨"GhostracerModel", "timeNow", "(I)I"⟩, 32) := ⟨⟨by decide +kernel, by decide +kernel⟩, List.mem_of_getElem? (i := 830) (by decide +kernel), List.mem_of_getElem? (i := 1017) (by decide +kernel), List.mem_of_getElem? (i := 1018) (by decide +kernel)⟩
theorem lw_p28 : lw_okq (⟨"GhostracerModel", "depthOf", "(I)I"⟩, 32) := ⟨⟨by decide +kernel, by decide +kernel⟩, List.mem_of_getElem? (i := 830) (by decide +kernel), List.mem_of_getElem? (i := 1021) (by decide +kernel), List.mem_of_getElem? (i := 1022) (by decide +kernel)⟩
theorem lw_p29 : lw_okq (⟨"GhostracerModel", "countOf", "(I)I"⟩, 32) := ⟨⟨by decide +kernel, by decide +kernel⟩, List.mem_of_getElem? (i := 830) (by decide +kernel), List.mem_of_getElem? (i := 1037) (by decide +kernel), List.mem_of_getElem? (i := 1038) (by decide +kernel)⟩
theorem lw_p30 : lw_okq (⟨"GhostracerModel", "partsOf", "(I)I"⟩, 32) := ⟨⟨by decide +kernel, by decide +kernel⟩, List.mem_of_getElem? (i := 830) (by decide +kernel), List.mem_of_getElem? (i := 1077) (by decide +kernel), List.mem_of_getElem? (i := 1078) (by decide +kernel)⟩
theorem lw_p31 : lw_okq (⟨"GhostracerModel", "allParts", "()I"⟩, 32) := ⟨⟨by decide +kernel, by decide +kernel⟩, List.mem_of_getElem? (i := 830) (by decide +kernel), List.mem_of_getElem? (i := 1085) (by decide +kernel), List.mem_of_getElem? (i := 1086) (by decide +kernel)⟩
def lw_privs_2 : List (MethodName × Nat) := [(⟨"GhostracerModel", "fails", "(I)Z"⟩, 32), (⟨"GhostracerModel", "isNoTrack", "(I)Z"⟩, 32), (⟨"GhostracerModel", "lengthNow", "(I)I"⟩, 32), (⟨"GhostracerModel", "limitNow", "(II)I"⟩, 32), (⟨"GhostracerModel", "isNoCar", "(I)Z"⟩, 32), (⟨"GhostracerModel", "isGhost", "(II)Z"⟩, 32), (⟨"GhostracerModel", "isNoLap", "(I)Z"⟩, 32), (⟨"GhostracerModel", "canDrive", "(II)Z"⟩, 32), (⟨"GhostracerModel", "drives", "(II)V"⟩, 32), (⟨"GhostracerModel", "starts", "()V"⟩, 32), (⟨"GhostracerModel", "goes", "(IIC)V"⟩, 32), (⟨"GhostracerModel", "timeNow", "(I)I"⟩, 32), (⟨"GhostracerModel", "depthOf", "(I)I"⟩, 32), (⟨"GhostracerModel", "countOf", "(I)I"⟩, 32), (⟨"GhostracerModel", "partsOf", "(I)I"⟩, 32), (⟨"GhostracerModel", "allParts", "()I"⟩, 32)]
theorem lw_r2 : ∀ q ∈ lw_privs_2, lw_okq q := List.forall_mem_cons.mpr ⟨lw_p16, List.forall_mem_cons.mpr ⟨lw_p17, List.forall_mem_cons.mpr ⟨lw_p18, List.forall_mem_cons.mpr ⟨lw_p19, List.forall_mem_cons.mpr ⟨lw_p20, List.forall_mem_cons.mpr ⟨lw_p21, List.forall_mem_cons.mpr ⟨lw_p22, List.forall_mem_cons.mpr ⟨lw_p23, List.forall_mem_cons.mpr ⟨lw_p24, List.forall_mem_cons.mpr ⟨lw_p25, List.forall_mem_cons.mpr ⟨lw_p26, List.forall_mem_cons.mpr ⟨lw_p27, List.forall_mem_cons.mpr ⟨lw_p28, List.forall_mem_cons.mpr ⟨lw_p29, List.forall_mem_cons.mpr ⟨lw_p30, List.forall_mem_cons.mpr ⟨lw_p31, fun _ h => absurd h List.not_mem_nil⟩⟩⟩⟩⟩⟩⟩⟩⟩⟩⟩⟩⟩⟩⟩⟩
theorem lw_p32 : lw_okq (⟨"GhostracerModel", "rests", "(II)Z"⟩, 32) := ⟨⟨by decide +kernel, by decide +kernel⟩, List.mem_of_getElem? (i := 830) (by decide +kernel), List.mem_of_getElem? (i := 1093) (by decide +kernel), List.mem_of_getElem? (i := 1094) (by decide +kernel)⟩
theorem lw_p33 : lw_okq (⟨"GhostracerModel", "lapNow", "(II)I"⟩, 32) := ⟨⟨by decide +kernel, by decide +kernel⟩, List.mem_of_getElem? (i := 830) (by decide +kernel), List.mem_of_getElem? (i := 1125) (by decide +kernel), List.mem_of_getElem? (i := 1126) (by decide +kernel)⟩
theorem lw_p34 : lw_okq (⟨"GhostracerModel", "isNoSeat", "(II)Z"⟩, 32) := ⟨⟨by decide +kernel, by decide +kernel⟩, List.mem_of_getElem? (i := 830) (by decide +kernel), List.mem_of_getElem? (i := 1129) (by decide +kernel), List.mem_of_getElem? (i := 1130) (by decide +kernel)⟩
theorem lw_p35 : lw_okq (⟨"GhostracerModel", "placeNow", "(II)I"⟩, 32) := ⟨⟨by decide +kernel, by decide +kernel⟩, List.mem_of_getElem? (i := 830) (by decide +kernel), List.mem_of_getElem? (i := 1137) (by decide +kernel), List.mem_of_getElem? (i := 1138) (by decide +kernel)⟩
theorem lw_p36 : lw_okq (⟨"GhostracerModel", "pointsOf", "(I)I"⟩, 32) := ⟨⟨by decide +kernel, by decide +kernel⟩, List.mem_of_getElem? (i := 830) (by decide +kernel), List.mem_of_getElem? (i := 1152) (by decide +kernel), List.mem_of_getElem? (i := 1153) (by decide +kernel)⟩
theorem lw_p37 : lw_okq (⟨"GhostracerModel", "winsOf", "(I)I"⟩, 32) := ⟨⟨by decide +kernel, by decide +kernel⟩, List.mem_of_getElem? (i := 830) (by decide +kernel), List.mem_of_getElem? (i := 1163) (by decide +kernel), List.mem_of_getElem? (i := 1164) (by decide +kernel)⟩
def lw_privs_3 : List (MethodName × Nat) := [(⟨"GhostracerModel", "rests", "(II)Z"⟩, 32), (⟨"GhostracerModel", "lapNow", "(II)I"⟩, 32), (⟨"GhostracerModel", "isNoSeat", "(II)Z"⟩, 32), (⟨"GhostracerModel", "placeNow", "(II)I"⟩, 32), (⟨"GhostracerModel", "pointsOf", "(I)I"⟩, 32), (⟨"GhostracerModel", "winsOf", "(I)I"⟩, 32)]
theorem lw_r3 : ∀ q ∈ lw_privs_3, lw_okq q := List.forall_mem_cons.mpr ⟨lw_p32, List.forall_mem_cons.mpr ⟨lw_p33, List.forall_mem_cons.mpr ⟨lw_p34, List.forall_mem_cons.mpr ⟨lw_p35, List.forall_mem_cons.mpr ⟨lw_p36, List.forall_mem_cons.mpr ⟨lw_p37, fun _ h => absurd h List.not_mem_nil⟩⟩⟩⟩⟩⟩
def lw_privs : List (MethodName × Nat) := lw_privs_1 ++ (lw_privs_2 ++ (lw_privs_3))
def lw_tbl : List Cond := k2_sels lw_privs ++ tables_1
theorem lw_privs_ok : ∀ q ∈ lw_privs, lw_okq q := by
  show ∀ q ∈ lw_privs_1 ++ (lw_privs_2 ++ (lw_privs_3)), lw_okq q
  exact List.forall_mem_append.mpr ⟨lw_r1, List.forall_mem_append.mpr ⟨lw_r2, lw_r3⟩⟩
/-- the streams that the claim lets the run draw from -/
abbrev lw_cs : List Choice := [Jvm.Choice.named "NaN.bits"]
theorem lw_bits : nanBits ∈ lw_cs := by first | decide | exact List.mem_cons_self | simp [lw_cs, nanBits]
/-! ===== BEGIN words of one list among another's, by their places ===== -/
theorem goodIn_r {big : List Cond} (ws : List Cond) (ps : List Nat) (hp : ws = ps.filterMap (fun i => big[i]?)) (h : ws.all goodWord = true) : GoodIn big ws := by
  intro w hw
  have h1 := List.all_eq_true.mp h w hw
  rw [hp] at hw
  obtain ⟨i, -, hi⟩ := List.mem_filterMap.mp hw
  have hm : w ∈ big := by first | exact List.mem_of_getElem? hi | exact List.getElem?_mem hi
  exact ⟨hm, good_of_word h1⟩
theorem goodIn_app {big a b : List Cond} (ha : GoodIn big a) (hb : GoodIn big b) : GoodIn big (a ++ b) := fun w h => (List.mem_append.mp h).elim (ha w) (hb w)
theorem goodIn_ca {big a b : List Cond} {c : Cond} (ha : GoodIn big (c :: a)) (hb : GoodIn big b) : GoodIn big (c :: (a ++ b)) := fun w h => (List.mem_cons.mp h).elim (fun e => ha w (List.mem_cons.mpr (Or.inl e))) (fun h => (List.mem_append.mp h).elim (fun h => ha w (List.mem_cons.mpr (Or.inr h))) (hb w))
theorem goodIn_sub {big ws : List Cond} (hm : ∀ w ∈ ws, w ∈ big) (h : ws.all goodWord = true) : GoodIn big ws := fun w hw => ⟨hm w hw, good_of_word (List.all_eq_true.mp h w hw)⟩
/-! ===== END ===== -/

/-! ===== BEGIN exceptions that leave a method, and their catching by the caller (launches without stack traces) ===== -/
section VXA
/-! The laws vx_back, vx_callV, vx_callS, vx_callSW, vx_throw0, vx_throwS follow proofs of the library, with one case more: JvmDerived/Free/Laws.lean (Back.of_free), Shelf42/LK1.lean (callV, callS), Shelf/KitTraced.lean (throwNew0V, throwNewS). -/
/-- where a method has thrown q: the class by its name, the cell, what was written, the world -/
def vx_T (XC : String → State → State → Prop) (st : State) (q : Addr) (t : State) (mc ms : Nat) (free : Addr → Prop) : Prop :=
  ∃ (E : String) (ce : Cell) (L : List Loc), XC E st t ∧ t.heap[q]? = some ce ∧ ce.vm = .none ∧ st.vm.findClass E = some ce.cls ∧ st.WarmedH t.vm ∧ st.sameButNew ({ t with vm := st.vm } : State) L mc ms ∧ ∀ z ∈ L, free z.base
def vx_Q (Qc : Array Value → State → Outcome → State → Prop) (XC : String → State → State → Prop) (mc ms : Nat) (free : Addr → Prop) : Array Value → State → Outcome → State → Prop := fun a st o t =>
  (Qc a st o t ∧ ∃ L, FrameEnd st o t L mc ms ∧ ∀ q ∈ L, free q.base) ∨ ∃ q, o = .threw q ∧ vx_T XC st q t mc ms free
/-- a callee that returns or throws -/
def vx_Met (l : Launch) (y : MethodName) (ws : List Cond) (rm : Room) (Pc : Array Value → State → Prop) (Qc : Array Value → State → Outcome → State → Prop) (XC : String → State → State → Prop) (mc ms : Nat) (free : Addr → Prop) : Prop :=
  MetFree l y (headSpec ws rm) Pc (fun _ _ _ _ _ => True) (vx_Q Qc XC mc ms free)
def vx_Post (XC : String → State → State → Prop) (mc ms : Nat) (free : Addr → Prop) : Pt → Array Value → Addr → Pt → Prop := fun A a q B =>
  ∃ (g : JFrame) (mk : MethodId) (t : State) (L : List Loc) (E : String) (ce : Cell), B.U.heap = t.heap ∧ B.U.vm = t.vm ∧ XC E (A.U.calling g mk a) t ∧ t.heap[q]? = some ce ∧ ce.vm = .none ∧ A.U.vm.findClass E = some ce.cls ∧ B.locs = A.locs ++ L ∧ (∀ z ∈ L, free z.base) ∧ B.cells = A.cells + mc ∧ B.slots = A.slots + ms
def vx_Back (l : Launch) (R : Room) (p : Program) (e : Env) (below : List Frame) (s : State) (sargs : Array Value) (y : MethodName) (len W9 : Nat)
    (Pre : Pt → Array Value → Prop) (Post : Pt → Array Value → Option Value → Pt → Prop) (PostX : Pt → Array Value → Addr → Pt → Prop) : Prop :=
  ∀ (m : MethodId) (meth : Method) (c : Code) (A : Pt) (g : JFrame) (ig : Instr) (mk : MethodId) (a : Array Value),
    Stand p l e R s m sargs below meth c A.U A.locs A.cells A.slots → g.method = m → g.locals.size = c.maxLocals → decode c.code g.pc = .ok (ig, len) →
    2 * g.monitorRoom + (g.stack.map fun v => v.category).sum ≤ W9 → A.U.methodNamed? y = some mk → Pre A a →
    (∃ (v : Option Value) (B : Pt), Stand p l e R s m sargs below meth c B.U B.locs B.cells B.slots ∧ Post A a v B ∧
      Steps p.tables e below (doInvoke e (A.U.setTop g) [] mk a).1 (B.U.setTop { g with pc := g.pc + len, stack := v.toList ++ g.stack })) ∨
    (∃ (q : Addr) (B : Pt), Stand p l e R s m sargs below meth c B.U B.locs B.cells B.slots ∧ PostX A a q B ∧
      Steps p.tables e below (doInvoke e (A.U.setTop g) [] mk a).1 ((B.U.setTop g).pushFrame (.throwing q)))
section Payer
variable {l : Launch} {R : Room} {p : Program} {e : Env} {below : List Frame} {s : State} {sargs : Array Value} {y : MethodName} {len W9 : Nat}
theorem vx_back {ws : List Cond} {rm : Room} {Pc : Array Value → State → Prop} {Qc : Array Value → State → Outcome → State → Prop} {XC : String → State → State → Prop} {mc ms : Nat} {free : Addr → Prop} {bytes : ByteArray} {maxL : Nat} {ret : Option FieldType}
    (hM : vx_Met l y ws rm Pc Qc XC mc ms free) (hblind : FrameBlind Pc) (hrc : rm.cells = mc) (hrs : rm.slots = ms)
    (hframes : rm.frames + 1 ≤ R.frames) (hlocals : W9 + (maxL + 11) + rm.locals ≤ R.locals)
    (hws : ∀ w ∈ ws, ∀ a' U, s.WarmedH U.vm → w.before a' U = true) (hcode : Cond.code y bytes maxL ret ∈ ws) (hinit : ∀ a' U, s.WarmedH U.vm → (Cond.initialized y.cls).before a' U = true) :
    vx_Back l R p e below s sargs y len W9 (PreOf R mc ms Pc) (PostOf Qc mc ms free) (vx_Post XC mc ms free) := by
  intro m meth c A g ig mk a X hg hsize hdg hW hn hp
  have h1 : (headSpec ws rm).pre.before a A.U = true := atoms_intro fun w hw => hws w hw _ _ X.warmed
  have h2 : (Cond.code y bytes maxL ret).before a A.U = true := hws _ hcode _ _ X.warmed
  have h3 : (Cond.initialized y.cls).before a A.U = true := hinit _ _ X.warmed
  have h4 : A.cells + (headSpec ws rm).room.cells ≤ R.cells := by rw [show (headSpec ws rm).room.cells = mc from hrc]; exact hp.1
  have h5 : A.slots + (headSpec ws rm).room.slots ≤ R.slots := by rw [show (headSpec ws rm).room.slots = ms from hrs]; exact hp.2.1
  have hPc : Pc a (A.U.calling g mk a) := hblind _ _ _ _ hp.2.2
  obtain ⟨U, Ls, c0, s0⟩ := A
  dsimp only [Pt.U, Pt.locs, Pt.cells, Pt.slots] at h1 h2 h3 h4 h5 X hn hPc ⊢
  obtain ⟨methY, cY, hmY, hcY, -, hlY, -, -, -, -⟩ := Cond.code_spec hn h2
  obtain ⟨kY, hkY, -⟩ := className_of_methodNamed hn
  have hinitY : kY.init = .initialized := Cond.initialized_spec (findClass_of_methodNamed hn) hkY h3
  have h : At U g.method c below := by rw [hg]; exact X.here
  have hlocals9 : W9 + (maxL + 11) + (headSpec ws rm).room.locals ≤ R.locals := hlocals
  have happ : (headSpec ws rm).appliesLoose y e.platform (U.calling g mk a) = true :=
    Spec.appliesLoose_calling (g := g) h hdg hn hkY hinitY
      (X.room_calling (g := g) (R' := (headSpec ws rm).room) hsize hmY hcY hframes (by rw [hlY]; omega) h4 h5) h1
  obtain ⟨mid, hmid⟩ := h.above
  have hfr : (U.setTop g).frames = (.java g :: mid) ++ below := by rw [State.frames_setTop' g h.top, hmid]; rfl
  obtain ⟨o, s₂, hsteps, -, hend, hq⟩ := Steps.callFree hM p X.admits X.cas X.clock (acts := []) hfr happ hPc trivial
  have hq' : vx_Q Qc XC mc ms free a (U.calling g mk a) o s₂ := hq
  rw [State.frames_setTop' g h.top] at hend
  obtain ⟨g₀, hg0⟩ := Option.isSome_iff_exists.mp h.top
  obtain ⟨r, hr⟩ := State.topJava?_eq_some.mp hg0
  have hr' : (({ U with heap := s₂.heap, slotsUsed := s₂.slotsUsed } : State).setVm s₂.vm).frames = .java g₀ :: r := hr
  rcases hq' with ⟨hqc, L, hfe, hL⟩ | ⟨q, rfl, E, ce, L, hx, hce, hcv, hcl, hW₂, hsm, hL⟩
  · obtain ⟨⟨v, rfl⟩, hW₂, e2, q2, q3, q4, q5, q6⟩ := id hfe
    have e3 : s₂ = ({ (U.calling g mk a).setFrames s₂.frames with heap := s₂.heap, slotsUsed := s₂.slotsUsed } : State).setVm s₂.vm := by
      have : s₂ = ({ s₂ with vm := (U.calling g mk a).vm } : State).setVm s₂.vm := rfl
      rw [e2] at this
      exact this
    obtain ⟨c₂, i₂, len₂, hc₂, hd₂, hf₂⟩ := hend
    have hW' : U.WarmedH s₂.vm := hW₂
    have hcc : c₂ = c := by
      have h1 : s₂.code? g.method = U.code? g.method := by
        rw [State.code?_eq, State.code?_eq, hW'.alike.method?]
      exact Option.some.inj (hc₂.symm.trans (h1.trans h.code))
    subst hcc
    have hlen : len₂ = len := by rw [hdg] at hd₂; cases hd₂; rfl
    subst hlen
    have hs₂ : s₂ = (({ U with heap := s₂.heap, slotsUsed := s₂.slotsUsed } : State).setVm s₂.vm).setTop { g with pc := g.pc + len₂, stack := v.toList ++ g.stack } := by
      refine e3.trans ?_
      rw [hf₂, State.calling_eq h.top, State.setFrames_setFrames, State.setTop_of_frames _ hr', hr]
      rfl
    have hsame : U.sameButNew ({ U with heap := s₂.heap, slotsUsed := s₂.slotsUsed } : State) L mc ms := by
      refine ⟨?_, q2, q3, q4, q5, q6⟩
      obtain ⟨t, ht, -⟩ := State.frames_cons hr
      show ({ U with heap := s₂.heap, slotsUsed := s₂.slotsUsed } : State) = { U.setFrames U.frames with heap := s₂.heap, slotsUsed := s₂.slotsUsed }
      rw [State.setFrames_self ht]
    subst hg
    refine Or.inl ⟨v, ⟨(({ U with heap := s₂.heap, slotsUsed := s₂.slotsUsed } : State).setVm s₂.vm), Ls ++ L, c0 + mc, s0 + ms⟩,
      ⟨X.admits, X.cas, X.clock, X.frames, X.room, X.hears, X.method, X.code, (X.here.setHeapUsed s₂.heap s₂.slotsUsed).setVm hW'.alike, X.tail, State.WarmedH.trans X.warmed hW', X.limits, X.bytes, X.same.trans (hsame.setVm s.vm)⟩,
      ⟨g, mk, s₂, L, rfl, rfl, hqc, rfl, hL, rfl, rfl⟩, ?_⟩
    show Steps p.tables e below _ ((({ U with heap := s₂.heap, slotsUsed := s₂.slotsUsed } : State).setVm s₂.vm).setTop { g with pc := g.pc + len₂, stack := v.toList ++ g.stack })
    rw [← hs₂]
    exact hsteps
  · obtain ⟨e2, q2, q3, q4, q5, q6⟩ := id hsm
    have e3 : s₂ = ({ (U.calling g mk a).setFrames s₂.frames with heap := s₂.heap, slotsUsed := s₂.slotsUsed } : State).setVm s₂.vm := by
      have : s₂ = ({ s₂ with vm := (U.calling g mk a).vm } : State).setVm s₂.vm := rfl
      rw [e2] at this
      exact this
    have hf₂ : s₂.frames = .throwing q :: .java g :: U.frames.tail := hend
    have hW' : U.WarmedH s₂.vm := hW₂
    have hs₂ : s₂ = ((({ U with heap := s₂.heap, slotsUsed := s₂.slotsUsed } : State).setVm s₂.vm).setTop g).pushFrame (.throwing q) := by
      refine e3.trans ?_
      rw [hf₂, State.calling_eq h.top, State.setFrames_setFrames, State.pushFrame, State.frames_setTop _ hr', State.setTop_of_frames _ hr', State.setFrames_setFrames, hr]
      rfl
    have hsame : U.sameButNew ({ U with heap := s₂.heap, slotsUsed := s₂.slotsUsed } : State) L mc ms := by
      refine ⟨?_, q2, q3, q4, q5, q6⟩
      obtain ⟨t, ht, -⟩ := State.frames_cons hr
      show ({ U with heap := s₂.heap, slotsUsed := s₂.slotsUsed } : State) = { U.setFrames U.frames with heap := s₂.heap, slotsUsed := s₂.slotsUsed }
      rw [State.setFrames_self ht]
    subst hg
    refine Or.inr ⟨q, ⟨(({ U with heap := s₂.heap, slotsUsed := s₂.slotsUsed } : State).setVm s₂.vm), Ls ++ L, c0 + mc, s0 + ms⟩,
      ⟨X.admits, X.cas, X.clock, X.frames, X.room, X.hears, X.method, X.code, (X.here.setHeapUsed s₂.heap s₂.slotsUsed).setVm hW'.alike, X.tail, State.WarmedH.trans X.warmed hW', X.limits, X.bytes, X.same.trans (hsame.setVm s.vm)⟩,
      ⟨g, mk, s₂, L, E, ce, rfl, rfl, hx, hce, hcv, hcl, rfl, hL, rfl, rfl⟩, ?_⟩
    show Steps p.tables e below _ (((({ U with heap := s₂.heap, slotsUsed := s₂.slotsUsed } : State).setVm s₂.vm).setTop g).pushFrame (.throwing q))
    rw [← hs₂]
    exact hsteps
end Payer
section Calls
variable {p : Program} {l : Launch} {e : Env} {R : Room} {s : State} {m : MethodId} {args : Array Value} {below : List Frame} {meth : Method} {c : Code} {T : State} {locs : List Loc} {cells slots : Nat}
theorem vx_callV (X : Stand p l e R s m args below meth c T locs cells slots) (hexec : p.tables.exec = Jvm.exec) {own C : String} {index : Nat} {y : MethodName} {bytes : ByteArray} {maxL : Nat} {ret : Option FieldType}
    (hown : s.vm.findClass own = some m.cls) (hlink : (Cond.methodLink own index y).before args s = true) (hinst : (Cond.instanceMethod y).before args s = true) (hsel : (Cond.selects C y y).before args s = true)
    (hcode : (Cond.code y bytes maxL ret).before args s = true) (hy : y.cls ≠ "java/lang/invoke/MethodHandle" ∧ y.cls ≠ "java/lang/invoke/VarHandle")
    {W9 : Nat} {Pre : Pt → Array Value → Prop} {Post : Pt → Array Value → Option Value → Pt → Prop} {PostX : Pt → Array Value → Addr → Pt → Prop} (hK : vx_Back l R p e below s args y 3 W9 Pre Post PostX)
    {b : Addr} {cellB : Cell} (hcell : T.heap[b]? = some cellB) (hobj : cellB.vm.isStatics = false) (hcls : s.vm.findClass C = some cellB.cls)
    {g : JFrame} (hg : g.method = m) (hsize : g.locals.size = c.maxLocals) {argsL rest : List Value} (hlen : ∀ sig, parseMethodDescriptor y.desc = some sig → argsL.length = sig.parameters.length)
    (hstack : g.stack = argsL.reverse ++ .ref b :: rest) (hW : 2 * g.monitorRoom + (rest.map fun v => v.category).sum ≤ W9) (hdg : decode c.code g.pc = .ok (.invokevirtual index, 3))
    (hpre : ∀ vm₁, s.WarmedH vm₁ → Pre ⟨T.setVm vm₁, locs, cells, slots⟩ (Value.ref b :: argsL).toArray) :
    (∃ (v : Option Value) (vm₁ : Vm) (B : Pt), s.WarmedH vm₁ ∧ Stand p l e R s m args below meth c B.U B.locs B.cells B.slots ∧ Post ⟨T.setVm vm₁, locs, cells, slots⟩ (Value.ref b :: argsL).toArray v B ∧
      ∀ target, Steps p.tables e below (B.U.setTop { g with pc := g.pc + 3, stack := v.toList ++ rest }) target → Steps p.tables e below (T.setTop g) target) ∨
    (∃ (q : Addr) (vm₁ : Vm) (B : Pt), s.WarmedH vm₁ ∧ Stand p l e R s m args below meth c B.U B.locs B.cells B.slots ∧ PostX ⟨T.setVm vm₁, locs, cells, slots⟩ (Value.ref b :: argsL).toArray q B ∧
      Steps p.tables e below (T.setTop g) ((B.U.setTop { g with stack := rest }).pushFrame (.throwing q))) := by
  obtain ⟨mk, methM, hnamed, hmethM, hstM, habM⟩ := Cond.instanceMethod_spec hinst
  obtain ⟨methM', cM, hmethM', -, -, -, -, -, -, hsigM⟩ := Cond.code_spec hnamed hcode
  cases hmethM.symm.trans hmethM'
  obtain ⟨c2, r2, m2, q1, q2, q3, q4, kP, hkP, hkPi⟩ := Cond.selects_spec hsel
  cases hcls.symm.trans q1
  cases (State.methodFound?_of_named hnamed hy).symm.trans q2
  cases hnamed.symm.trans q3
  have hselP : selectMethod e.platform s.vm cellB.cls mk = .method mk := by rw [Launch.admits_selectMethod X.admits]; exact q4
  obtain ⟨vm₁, X₁, hstep₁⟩ := X.invokevirtual hexec hown hlink hnamed hmethM hstM hkP hkPi hy (a := b) (cell := cellB) hcell
    (fun z h => by rw [h] at hobj; cases hobj) hselP hmethM habM hkP hkPi (g := g) hg (argsL := argsL) (rest := rest) (hlen _ hsigM) hstack hdg
  rcases hK m meth c ⟨T.setVm vm₁, locs, cells, slots⟩ { g with stack := rest } (.invokevirtual index) mk (Value.ref b :: argsL).toArray X₁ hg hsize hdg hW (X₁.named hnamed) (hpre vm₁ X₁.warmed) with ⟨v, B, X', hpost, hsteps⟩ | ⟨q, B, X', hpost, hsteps⟩
  · exact Or.inl ⟨v, vm₁, B, X₁.warmed, X', hpost, fun target h => hstep₁ _ fun acts => by rw [doInvoke_state]; exact hsteps.trans h⟩
  · exact Or.inr ⟨q, vm₁, B, X₁.warmed, X', hpost, hstep₁ _ fun acts => by rw [doInvoke_state]; exact hsteps⟩
theorem vx_callS (X : Stand p l e R s m args below meth c T locs cells slots) (hexec : p.tables.exec = Jvm.exec) {own : String} {index : Nat} {y : MethodName} {bytes : ByteArray} {maxL : Nat} {ret : Option FieldType}
    (hown : s.vm.findClass own = some m.cls) (hlink : (Cond.methodLink own index y).before args s = true) (hstat : (Cond.static y).before args s = true) (hinit : (Cond.initialized y.cls).before args s = true)
    (hcode : (Cond.code y bytes maxL ret).before args s = true) (hy : y.cls ≠ "java/lang/invoke/MethodHandle" ∧ y.cls ≠ "java/lang/invoke/VarHandle")
    {W9 : Nat} {Pre : Pt → Array Value → Prop} {Post : Pt → Array Value → Option Value → Pt → Prop} {PostX : Pt → Array Value → Addr → Pt → Prop} (hK : vx_Back l R p e below s args y 3 W9 Pre Post PostX)
    {g : JFrame} (hg : g.method = m) (hsize : g.locals.size = c.maxLocals) {argsL rest : List Value} (hlen : ∀ sig, parseMethodDescriptor y.desc = some sig → argsL.length = sig.parameters.length)
    (hstack : g.stack = argsL.reverse ++ rest) (hW : 2 * g.monitorRoom + (rest.map fun v => v.category).sum ≤ W9) (hdg : decode c.code g.pc = .ok (.invokestatic index, 3))
    (hpre : ∀ vm₁, s.WarmedH vm₁ → Pre ⟨T.setVm vm₁, locs, cells, slots⟩ argsL.toArray) :
    (∃ (v : Option Value) (vm₁ : Vm) (B : Pt), s.WarmedH vm₁ ∧ Stand p l e R s m args below meth c B.U B.locs B.cells B.slots ∧ Post ⟨T.setVm vm₁, locs, cells, slots⟩ argsL.toArray v B ∧
      ∀ target, Steps p.tables e below (B.U.setTop { g with pc := g.pc + 3, stack := v.toList ++ rest }) target → Steps p.tables e below (T.setTop g) target) ∨
    (∃ (q : Addr) (vm₁ : Vm) (B : Pt), s.WarmedH vm₁ ∧ Stand p l e R s m args below meth c B.U B.locs B.cells B.slots ∧ PostX ⟨T.setVm vm₁, locs, cells, slots⟩ argsL.toArray q B ∧
      Steps p.tables e below (T.setTop g) ((B.U.setTop { g with stack := rest }).pushFrame (.throwing q))) := by
  obtain ⟨mk, hnamed⟩ := Cond.code_named hcode
  obtain ⟨methM, cM, hmethM, -, -, -, -, -, -, hsigM⟩ := Cond.code_spec hnamed hcode
  have hstatic : methM.isStatic = true := Cond.static_spec hnamed hmethM hstat
  obtain ⟨kP, hkP, -⟩ := className_of_methodNamed hnamed
  have hinitP : kP.init = .initialized := Cond.initialized_spec (findClass_of_methodNamed hnamed) hkP hinit
  obtain ⟨vm₁, X₁, hstep₁⟩ := X.invokestatic hexec hown hlink hnamed hmethM hstatic hkP hinitP hy (g := g) hg (argsL := argsL) (rest := rest) (hlen _ hsigM) hstack hdg
  rcases hK m meth c ⟨T.setVm vm₁, locs, cells, slots⟩ { g with stack := rest } (.invokestatic index) mk argsL.toArray X₁ hg hsize hdg hW (X₁.named hnamed) (hpre vm₁ X₁.warmed) with ⟨v, B, X', hpost, hsteps⟩ | ⟨q, B, X', hpost, hsteps⟩
  · exact Or.inl ⟨v, vm₁, B, X₁.warmed, X', hpost, fun target h => hstep₁ _ fun acts => by rw [doInvoke_state]; exact hsteps.trans h⟩
  · exact Or.inr ⟨q, vm₁, B, X₁.warmed, X', hpost, hstep₁ _ fun acts => by rw [doInvoke_state]; exact hsteps⟩
end Calls
theorem vx_cls {s : State} {T : State} {vm₁ : Vm} {E : String} {k : ClassId} (hW : s.WarmedH vm₁) (h : (T.setVm vm₁).vm.findClass E = some k) : s.vm.findClass E = some k := by
  have h1 : vm₁.findClass E = some k := h
  rw [hW.alike.findClass] at h1
  exact h1
/-- the method's frame g, with q thrown over it -/
def vx_W (p : Program) (l : Launch) (e : Env) (R : Room) (s : State) (m : MethodId) (args : Array Value) (below : List Frame) (meth : Method) (c : Code) (H : Heap) (locs : List Loc) (cells slots : Nat) (Q : State → Prop) (g : JFrame) (q : Addr) : Prop :=
  ∀ T : State, T.heap = H → Stand p l e R s m args below meth c T locs cells slots → ∃ t, Steps p.tables e below ((T.setTop g).pushFrame (.throwing q)) t ∧ Q t
def vx_Run (p : Program) (l : Launch) (e : Env) (R : Room) (s : State) (m : MethodId) (args : Array Value) (below : List Frame) (meth : Method) (c : Code) (H : Heap) (locs : List Loc) (cells slots mc ms : Nat) (g : JFrame) (rest : List Value) (Qa : State → Outcome → State → Prop) (XC : String → State → State → Prop) (free : Addr → Prop) : Prop :=
  ∀ T : State, T.heap = H → Stand p l e R s m args below meth c T locs cells slots →
    (∃ (v : Option Value) (st₀ t T' : State) (L : List Loc), st₀.heap = H ∧ Stand p l e R s m args below meth c T' (locs ++ L) (cells + mc) (slots + ms) ∧ (∀ q ∈ L, free q.base) ∧ T'.heap = t.heap ∧ T'.vm = t.vm ∧ Qa st₀ (.returned v) t ∧
      Goes p e below T g T' { g with pc := g.pc + 3, stack := v.toList ++ rest }) ∨
    (∃ (q : Addr) (st₀ t T' : State) (L : List Loc) (E : String) (ce : Cell), st₀.heap = H ∧ Stand p l e R s m args below meth c T' (locs ++ L) (cells + mc) (slots + ms) ∧ (∀ z ∈ L, free z.base) ∧ T'.heap = t.heap ∧ T'.vm = t.vm ∧ XC E st₀ t ∧ t.heap[q]? = some ce ∧ ce.vm = .none ∧ s.vm.findClass E = some ce.cls ∧
      Steps p.tables e below (T.setTop g) ((T'.setTop { g with stack := rest }).pushFrame (.throwing q)))
def vx_X {S : Type} (px : S → Prop) (B : String → S → State → Prop) (A : Nat → Prop) : String → State → State → Prop := fun E st t => ∃ u : S, px u ∧ B E u t ∧ va_F A st t
section Runs
variable {p : Program} {l : Launch} {e : Env} {R : Room} {s : State} {m : MethodId} {args : Array Value} {below : List Frame} {meth : Method} {c : Code} {H : Heap} {locs : List Loc} {cells slots : Nat}
variable {y : MethodName} {bytes cc : ByteArray} {maxL nL mc ms n index : Nat} {ret : Option FieldType} {ws : List Cond} {rm : Room} {Pc : Array Value → State → Prop} {Qc : Array Value → State → Outcome → State → Prop} {XC : String → State → State → Prop} {free : Addr → Prop} {Ts : List Cond} {own C : String} {b : Addr} {As rest : List Value} {g : JFrame}
theorem vx_callBack (cb : CallB R s args own index y bytes maxL ret ws rm mc ms n) (hM : vx_Met l y ws rm Pc Qc XC mc ms free) (hbl : FrameBlind Pc) : vx_Back l R p e below s args y 3 8 (PreOf R mc ms Pc) (PostOf Qc mc ms free) (vx_Post XC mc ms free) := by
  obtain ⟨hrc, hrs, hfr, hlo, hws, hcw, -, hini, -⟩ := cb
  exact vx_back (bytes := bytes) (maxL := maxL) (ret := ret) hM hbl hrc hrs hfr hlo hws hcw (fun a' U hW => word_at hW (Or.inl (by first | rfl | simp [Cond.onTables, Cond.keeps, Cond.steady])) hini)
theorem vx_runV (S : CallFix p m c cc nL s args Ts own) (hM : vx_Met l y ws rm Pc Qc XC mc ms free) (cw : CallW R s args own C index y bytes maxL ret ws rm mc ms n) (hp : PreV s H C b Pc As)
    (hg : g.method = m) (hn : As.length = n) (hsize : g.locals.size = nL) (hstack : g.stack = As.reverse ++ .ref b :: rest) (hW : 2 * g.monitorRoom + (rest.map fun v => v.category).sum ≤ 8) (hdg : decode cc g.pc = .ok (.invokevirtual index, 3)) (hf : cells + mc ≤ R.cells ∧ slots + ms ≤ R.slots) :
    vx_Run p l e R s m args below meth c H locs cells slots mc ms g rest (Qc (Value.ref b :: As).toArray) XC free := by
  have hK : vx_Back l R p e below s args y 3 8 (PreOf R mc ms Pc) (PostOf Qc mc ms free) (vx_Post XC mc ms free) := vx_callBack cw.1 hM hp.1
  obtain ⟨⟨-, -, -, -, -, -, hcode, -, hy, hlen, hl⟩, hin, hse⟩ := cw
  obtain ⟨hx, hb, hml, ho, -⟩ := S
  obtain ⟨-, ⟨cellB, hcB, hoB, hclB⟩, hPc⟩ := hp
  intro T hT X
  rcases vx_callV X hx (C := C) (bytes := bytes) (maxL := maxL) (ret := ret) ho hl hin hse hcode hy hK (by rw [hT]; exact hcB) hoB hclB hg (hsize.trans hml.symm) (argsL := As) (rest := rest) (fun sig h => hn.trans (hlen sig h)) hstack hW (by rw [hb]; exact hdg)
    (fun vm₁ hW₁ => ⟨hf.1, hf.2, hPc (T.setVm vm₁) hT hW₁⟩) with ⟨v, vm₁, ⟨U', l2, c2, s2⟩, hW₁, X', ⟨g', mk, t, L, e1, e2, hq, h1, hL, h2, h3⟩, st⟩ | ⟨q, vm₁, ⟨U', l2, c2, s2⟩, hW₁, X', ⟨g', mk, t, L, E, ce, e1, e2, hq, hce, hcv, hcl, h1, hL, h2, h3⟩, st⟩
  · dsimp only [Pt.U, Pt.locs, Pt.cells, Pt.slots] at X' e1 e2 h1 h2 h3 st
    subst h1; subst h2; subst h3
    exact Or.inl ⟨v, (T.setVm vm₁).calling g' mk (Value.ref b :: As).toArray, t, U', L, hT, X', hL, e1, e2, hq, st⟩
  · dsimp only [Pt.U, Pt.locs, Pt.cells, Pt.slots] at X' e1 e2 h1 h2 h3 st hcl
    subst h1; subst h2; subst h3
    exact Or.inr ⟨q, (T.setVm vm₁).calling g' mk (Value.ref b :: As).toArray, t, U', L, E, ce, hT, X', hL, e1, e2, hq, hce, hcv, vx_cls hW₁ hcl, st⟩
theorem vx_runS (S : CallFix p m c cc nL s args Ts own) (hM : vx_Met l y ws rm Pc Qc XC mc ms free) (cw : CallB R s args own index y bytes maxL ret ws rm mc ms n ∧ (Cond.static y).before args s = true) (hp : PreS s H Pc As)
    (hg : g.method = m) (hn : As.length = n) (hsize : g.locals.size = nL) (hstack : g.stack = As.reverse ++ rest) (hW : 2 * g.monitorRoom + (rest.map fun v => v.category).sum ≤ 8) (hdg : decode cc g.pc = .ok (.invokestatic index, 3)) (hf : cells + mc ≤ R.cells ∧ slots + ms ≤ R.slots) :
    vx_Run p l e R s m args below meth c H locs cells slots mc ms g rest (Qc As.toArray) XC free := by
  have hK : vx_Back l R p e below s args y 3 8 (PreOf R mc ms Pc) (PostOf Qc mc ms free) (vx_Post XC mc ms free) := vx_callBack cw.1 hM hp.1
  obtain ⟨⟨-, -, -, -, -, -, hcode, hini, hy, hlen, hl⟩, hstt⟩ := cw
  obtain ⟨hx, hb, hml, ho, -⟩ := S
  intro T hT X
  rcases vx_callS X hx (bytes := bytes) (maxL := maxL) (ret := ret) ho hl hstt hini hcode hy hK hg (hsize.trans hml.symm) (argsL := As) (rest := rest) (fun sig h => hn.trans (hlen sig h)) hstack hW (by rw [hb]; exact hdg)
    (fun vm₁ hW₁ => ⟨hf.1, hf.2, hp.2 (T.setVm vm₁) hT hW₁⟩) with ⟨v, vm₁, ⟨U', l2, c2, s2⟩, hW₁, X', ⟨g', mk, t, L, e1, e2, hq, h1, hL, h2, h3⟩, st⟩ | ⟨q, vm₁, ⟨U', l2, c2, s2⟩, hW₁, X', ⟨g', mk, t, L, E, ce, e1, e2, hq, hce, hcv, hcl, h1, hL, h2, h3⟩, st⟩
  · dsimp only [Pt.U, Pt.locs, Pt.cells, Pt.slots] at X' e1 e2 h1 h2 h3 st
    subst h1; subst h2; subst h3
    exact Or.inl ⟨v, (T.setVm vm₁).calling g' mk As.toArray, t, U', L, hT, X', hL, e1, e2, hq, st⟩
  · dsimp only [Pt.U, Pt.locs, Pt.cells, Pt.slots] at X' e1 e2 h1 h2 h3 st hcl
    subst h1; subst h2; subst h3
    exact Or.inr ⟨q, (T.setVm vm₁).calling g' mk As.toArray, t, U', L, E, ce, hT, X', hL, e1, e2, hq, hce, hcv, vx_cls hW₁ hcl, st⟩
end Runs
section Rows
variable {p : Program} {l : Launch} {e : Env} {R : Room} {s : State} {m : MethodId} {args : Array Value} {below : List Frame} {meth : Method} {c : Code} {H : Heap} {locs : List Loc} {cells slots : Nat} {Q : State → Prop}
variable {mc ms : Nat} {free : Addr → Prop} {A0 A1 : Nat → Prop} {H0 : Heap} {a : Array Value} {pc : Nat} {ls : Array Slot} {st0 rest : List Value}
theorem vx_keep {st₀ t T' : State} {L : List Loc} (h0 : st₀.heap = H) (e1 : T'.heap = t.heap) (hS : va_S A0 H0 H locs) (hA : ∀ q, q < H.size → A1 q → A0 q) (hf : ∀ q, free q → A0 q) (hL : ∀ q ∈ L, free q.base) (hF : va_F A1 st₀ t) :
    H.size ≤ T'.heap.size ∧ (∀ q : Nat, q < H.size → ¬ A1 q → T'.heap[q]? = H[q]?) ∧ va_S A0 H0 T'.heap (locs ++ L) := by
  obtain ⟨hz, hk⟩ := hF
  rw [h0] at hz hk
  exact ⟨by rw [e1]; exact hz, fun q h1 h2 => by rw [e1]; exact hk q h1 h2,
    ⟨Nat.le_trans hS.1 (by rw [e1]; exact hz), fun q h1 h2 => by rw [e1, hk q (Nat.lt_of_lt_of_le h1 hS.1) (fun z => h2 (hA q (Nat.lt_of_lt_of_le h1 hS.1) z))]; exact hS.2.1 q h1 h2, fun q hq => by
      rcases List.mem_append.mp hq with h | h
      · exact hS.2.2 q h
      · exact hf _ (hL q h)⟩⟩
theorem vx_calli {S SX : Type} {post : Int32 → S → Prop} {px : SX → Prop} {B : S → State → Prop} {BX : String → SX → State → Prop} {AX : Nat → Prop} (hr : vx_Run p l e R s m args below meth c H locs cells slots mc ms (F0 m pc ls st0) rest (va_Qi post B A1 a) (vx_X px BX AX) free) (hS : va_S A0 H0 H locs) (hA : ∀ q, q < H.size → A1 q → A0 q) (hf : ∀ q, free q → A0 q) (hAX : ∀ q, q < H.size → AX q → A0 q)
    (kx : ∀ (E : String) (ce : Cell) (q9 : Addr) (u : SX) (t : State) (H1 : Heap) (locs1 : List Loc), t.heap = H1 → s.vm.Alike t.vm → px u → BX E u t → H.size ≤ H1.size → (∀ q : Nat, q < H.size → ¬ AX q → H1[q]? = H[q]?) → va_S A0 H0 H1 locs1 → H1[q9]? = some ce → ce.vm = .none → s.vm.findClass E = some ce.cls → vx_W p l e R s m args below meth c H1 locs1 (cells + mc) (slots + ms) Q (F0 m pc ls rest) q9)
    (kk : ∀ (r : Int32) (u : S) (t : State) (H1 : Heap) (locs1 : List Loc), t.heap = H1 → s.vm.Alike t.vm → post r u → B u t → H.size ≤ H1.size → (∀ q : Nat, q < H.size → ¬ A1 q → H1[q]? = H[q]?) → va_S A0 H0 H1 locs1 → W p l e R s m args below meth c H1 locs1 (cells + mc) (slots + ms) Q (F0 m (pc + 3) ls (.int r :: rest))) : W p l e R s m args below meth c H locs cells slots Q (F0 m pc ls st0) := by
  intro T hT X
  rcases hr T hT X with ⟨v, st₀, t, T', L, h0, X', hL, e1, e2, ⟨⟨r, u, hv, hp, hb⟩, hF⟩, st⟩ | ⟨q, st₀, t, T', L, E, ce, h0, X', hL, e1, e2, ⟨u, hp, hb, hF⟩, hce, hcv, hcl, st⟩
  · cases hv
    obtain ⟨k1, k2, k3⟩ := vx_keep h0 e1 hS hA hf hL hF
    obtain ⟨t2, a1, b1⟩ := kk r u t T'.heap (locs ++ L) e1.symm (by rw [← e2]; exact X'.warmed.alike) hp hb k1 k2 k3 T' rfl X'
    exact ⟨t2, st t2 a1, b1⟩
  · obtain ⟨k1, k2, k3⟩ := vx_keep h0 e1 hS hAX hf hL hF
    obtain ⟨t2, a1, b1⟩ := kx E ce q u t T'.heap (locs ++ L) e1.symm (by rw [← e2]; exact X'.warmed.alike) hp hb k1 k2 k3 (by rw [e1]; exact hce) hcv hcl T' rfl X'
    exact ⟨t2, st.trans a1, b1⟩
theorem vx_calll {S SX : Type} {post : Int64 → S → Prop} {px : SX → Prop} {B : S → State → Prop} {BX : String → SX → State → Prop} {AX : Nat → Prop} (hr : vx_Run p l e R s m args below meth c H locs cells slots mc ms (F0 m pc ls st0) rest (va_Ql post B A1 a) (vx_X px BX AX) free) (hS : va_S A0 H0 H locs) (hA : ∀ q, q < H.size → A1 q → A0 q) (hf : ∀ q, free q → A0 q) (hAX : ∀ q, q < H.size → AX q → A0 q)
    (kx : ∀ (E : String) (ce : Cell) (q9 : Addr) (u : SX) (t : State) (H1 : Heap) (locs1 : List Loc), t.heap = H1 → s.vm.Alike t.vm → px u → BX E u t → H.size ≤ H1.size → (∀ q : Nat, q < H.size → ¬ AX q → H1[q]? = H[q]?) → va_S A0 H0 H1 locs1 → H1[q9]? = some ce → ce.vm = .none → s.vm.findClass E = some ce.cls → vx_W p l e R s m args below meth c H1 locs1 (cells + mc) (slots + ms) Q (F0 m pc ls rest) q9)
    (kk : ∀ (r : Int64) (u : S) (t : State) (H1 : Heap) (locs1 : List Loc), t.heap = H1 → s.vm.Alike t.vm → post r u → B u t → H.size ≤ H1.size → (∀ q : Nat, q < H.size → ¬ A1 q → H1[q]? = H[q]?) → va_S A0 H0 H1 locs1 → W p l e R s m args below meth c H1 locs1 (cells + mc) (slots + ms) Q (F0 m (pc + 3) ls (.long r :: rest))) : W p l e R s m args below meth c H locs cells slots Q (F0 m pc ls st0) := by
  intro T hT X
  rcases hr T hT X with ⟨v, st₀, t, T', L, h0, X', hL, e1, e2, ⟨⟨r, u, hv, hp, hb⟩, hF⟩, st⟩ | ⟨q, st₀, t, T', L, E, ce, h0, X', hL, e1, e2, ⟨u, hp, hb, hF⟩, hce, hcv, hcl, st⟩
  · cases hv
    obtain ⟨k1, k2, k3⟩ := vx_keep h0 e1 hS hA hf hL hF
    obtain ⟨t2, a1, b1⟩ := kk r u t T'.heap (locs ++ L) e1.symm (by rw [← e2]; exact X'.warmed.alike) hp hb k1 k2 k3 T' rfl X'
    exact ⟨t2, st t2 a1, b1⟩
  · obtain ⟨k1, k2, k3⟩ := vx_keep h0 e1 hS hAX hf hL hF
    obtain ⟨t2, a1, b1⟩ := kx E ce q u t T'.heap (locs ++ L) e1.symm (by rw [← e2]; exact X'.warmed.alike) hp hb k1 k2 k3 (by rw [e1]; exact hce) hcv hcl T' rfl X'
    exact ⟨t2, st.trans a1, b1⟩
theorem vx_callf {S SX : Type} {post : UInt32 → S → Prop} {px : SX → Prop} {B : S → State → Prop} {BX : String → SX → State → Prop} {AX : Nat → Prop} (hr : vx_Run p l e R s m args below meth c H locs cells slots mc ms (F0 m pc ls st0) rest (va_Qf post B A1 a) (vx_X px BX AX) free) (hS : va_S A0 H0 H locs) (hA : ∀ q, q < H.size → A1 q → A0 q) (hf : ∀ q, free q → A0 q) (hAX : ∀ q, q < H.size → AX q → A0 q)
    (kx : ∀ (E : String) (ce : Cell) (q9 : Addr) (u : SX) (t : State) (H1 : Heap) (locs1 : List Loc), t.heap = H1 → s.vm.Alike t.vm → px u → BX E u t → H.size ≤ H1.size → (∀ q : Nat, q < H.size → ¬ AX q → H1[q]? = H[q]?) → va_S A0 H0 H1 locs1 → H1[q9]? = some ce → ce.vm = .none → s.vm.findClass E = some ce.cls → vx_W p l e R s m args below meth c H1 locs1 (cells + mc) (slots + ms) Q (F0 m pc ls rest) q9)
    (kk : ∀ (r : UInt32) (u : S) (t : State) (H1 : Heap) (locs1 : List Loc), t.heap = H1 → s.vm.Alike t.vm → post r u → B u t → H.size ≤ H1.size → (∀ q : Nat, q < H.size → ¬ A1 q → H1[q]? = H[q]?) → va_S A0 H0 H1 locs1 → W p l e R s m args below meth c H1 locs1 (cells + mc) (slots + ms) Q (F0 m (pc + 3) ls (.float r :: rest))) : W p l e R s m args below meth c H locs cells slots Q (F0 m pc ls st0) := by
  intro T hT X
  rcases hr T hT X with ⟨v, st₀, t, T', L, h0, X', hL, e1, e2, ⟨⟨r, u, hv, hp, hb⟩, hF⟩, st⟩ | ⟨q, st₀, t, T', L, E, ce, h0, X', hL, e1, e2, ⟨u, hp, hb, hF⟩, hce, hcv, hcl, st⟩
  · cases hv
    obtain ⟨k1, k2, k3⟩ := vx_keep h0 e1 hS hA hf hL hF
    obtain ⟨t2, a1, b1⟩ := kk r u t T'.heap (locs ++ L) e1.symm (by rw [← e2]; exact X'.warmed.alike) hp hb k1 k2 k3 T' rfl X'
    exact ⟨t2, st t2 a1, b1⟩
  · obtain ⟨k1, k2, k3⟩ := vx_keep h0 e1 hS hAX hf hL hF
    obtain ⟨t2, a1, b1⟩ := kx E ce q u t T'.heap (locs ++ L) e1.symm (by rw [← e2]; exact X'.warmed.alike) hp hb k1 k2 k3 (by rw [e1]; exact hce) hcv hcl T' rfl X'
    exact ⟨t2, st.trans a1, b1⟩
theorem vx_calld {S SX : Type} {post : UInt64 → S → Prop} {px : SX → Prop} {B : S → State → Prop} {BX : String → SX → State → Prop} {AX : Nat → Prop} (hr : vx_Run p l e R s m args below meth c H locs cells slots mc ms (F0 m pc ls st0) rest (va_Qd post B A1 a) (vx_X px BX AX) free) (hS : va_S A0 H0 H locs) (hA : ∀ q, q < H.size → A1 q → A0 q) (hf : ∀ q, free q → A0 q) (hAX : ∀ q, q < H.size → AX q → A0 q)
    (kx : ∀ (E : String) (ce : Cell) (q9 : Addr) (u : SX) (t : State) (H1 : Heap) (locs1 : List Loc), t.heap = H1 → s.vm.Alike t.vm → px u → BX E u t → H.size ≤ H1.size → (∀ q : Nat, q < H.size → ¬ AX q → H1[q]? = H[q]?) → va_S A0 H0 H1 locs1 → H1[q9]? = some ce → ce.vm = .none → s.vm.findClass E = some ce.cls → vx_W p l e R s m args below meth c H1 locs1 (cells + mc) (slots + ms) Q (F0 m pc ls rest) q9)
    (kk : ∀ (r : UInt64) (u : S) (t : State) (H1 : Heap) (locs1 : List Loc), t.heap = H1 → s.vm.Alike t.vm → post r u → B u t → H.size ≤ H1.size → (∀ q : Nat, q < H.size → ¬ A1 q → H1[q]? = H[q]?) → va_S A0 H0 H1 locs1 → W p l e R s m args below meth c H1 locs1 (cells + mc) (slots + ms) Q (F0 m (pc + 3) ls (.double r :: rest))) : W p l e R s m args below meth c H locs cells slots Q (F0 m pc ls st0) := by
  intro T hT X
  rcases hr T hT X with ⟨v, st₀, t, T', L, h0, X', hL, e1, e2, ⟨⟨r, u, hv, hp, hb⟩, hF⟩, st⟩ | ⟨q, st₀, t, T', L, E, ce, h0, X', hL, e1, e2, ⟨u, hp, hb, hF⟩, hce, hcv, hcl, st⟩
  · cases hv
    obtain ⟨k1, k2, k3⟩ := vx_keep h0 e1 hS hA hf hL hF
    obtain ⟨t2, a1, b1⟩ := kk r u t T'.heap (locs ++ L) e1.symm (by rw [← e2]; exact X'.warmed.alike) hp hb k1 k2 k3 T' rfl X'
    exact ⟨t2, st t2 a1, b1⟩
  · obtain ⟨k1, k2, k3⟩ := vx_keep h0 e1 hS hAX hf hL hF
    obtain ⟨t2, a1, b1⟩ := kx E ce q u t T'.heap (locs ++ L) e1.symm (by rw [← e2]; exact X'.warmed.alike) hp hb k1 k2 k3 (by rw [e1]; exact hce) hcv hcl T' rfl X'
    exact ⟨t2, st.trans a1, b1⟩
theorem vx_callv {S SX : Type} {post : S → Prop} {px : SX → Prop} {B : S → State → Prop} {BX : String → SX → State → Prop} {AX : Nat → Prop} (hr : vx_Run p l e R s m args below meth c H locs cells slots mc ms (F0 m pc ls st0) rest (va_Qv post B A1 a) (vx_X px BX AX) free) (hS : va_S A0 H0 H locs) (hA : ∀ q, q < H.size → A1 q → A0 q) (hf : ∀ q, free q → A0 q) (hAX : ∀ q, q < H.size → AX q → A0 q)
    (kx : ∀ (E : String) (ce : Cell) (q9 : Addr) (u : SX) (t : State) (H1 : Heap) (locs1 : List Loc), t.heap = H1 → s.vm.Alike t.vm → px u → BX E u t → H.size ≤ H1.size → (∀ q : Nat, q < H.size → ¬ AX q → H1[q]? = H[q]?) → va_S A0 H0 H1 locs1 → H1[q9]? = some ce → ce.vm = .none → s.vm.findClass E = some ce.cls → vx_W p l e R s m args below meth c H1 locs1 (cells + mc) (slots + ms) Q (F0 m pc ls rest) q9)
    (kk : ∀ (u : S) (t : State) (H1 : Heap) (locs1 : List Loc), t.heap = H1 → s.vm.Alike t.vm → post u → B u t → H.size ≤ H1.size → (∀ q : Nat, q < H.size → ¬ A1 q → H1[q]? = H[q]?) → va_S A0 H0 H1 locs1 → W p l e R s m args below meth c H1 locs1 (cells + mc) (slots + ms) Q (F0 m (pc + 3) ls (rest))) : W p l e R s m args below meth c H locs cells slots Q (F0 m pc ls st0) := by
  intro T hT X
  rcases hr T hT X with ⟨v, st₀, t, T', L, h0, X', hL, e1, e2, ⟨⟨u, hv, hp, hb⟩, hF⟩, st⟩ | ⟨q, st₀, t, T', L, E, ce, h0, X', hL, e1, e2, ⟨u, hp, hb, hF⟩, hce, hcv, hcl, st⟩
  · cases hv
    obtain ⟨k1, k2, k3⟩ := vx_keep h0 e1 hS hA hf hL hF
    obtain ⟨t2, a1, b1⟩ := kk u t T'.heap (locs ++ L) e1.symm (by rw [← e2]; exact X'.warmed.alike) hp hb k1 k2 k3 T' rfl X'
    exact ⟨t2, st t2 a1, b1⟩
  · obtain ⟨k1, k2, k3⟩ := vx_keep h0 e1 hS hAX hf hL hF
    obtain ⟨t2, a1, b1⟩ := kx E ce q u t T'.heap (locs ++ L) e1.symm (by rw [← e2]; exact X'.warmed.alike) hp hb k1 k2 k3 (by rw [e1]; exact hce) hcv hcl T' rfl X'
    exact ⟨t2, st.trans a1, b1⟩
/-- caught by the row x of this method's table; the rows ahead don't take it -/
theorem vx_catch {own name : String} {E : String} {ce : Cell} {q : Addr} (hown : s.vm.findClass own = some m.cls) (pre : List ExceptionTableEntry) (x : ExceptionTableEntry) (suf : List ExceptionTableEntry) (hsplit : c.exceptionTable.toList = pre ++ x :: suf)
    (hpass : ∀ z ∈ pre, covers z pc = false ∨ (z.catchType ≠ 0 ∧ ∃ nm : String, (Cond.classLink own z.catchType nm).before args s = true ∧ va_Nc E nm s)) (hx : covers x pc = true) (h0 : x.catchType ≠ 0)
    (hlink : (Cond.classLink own x.catchType name).before args s = true) (hcast : (Cond.castable E name).before args s = true) (hcell : H[q]? = some ce) (hv : ce.vm = .none) (hcl : s.vm.findClass E = some ce.cls)
    (kk : W p l e R s m args below meth c H locs cells slots Q (F0 m x.handlerPc ls [.ref q])) : vx_W p l e R s m args below meth c H locs cells slots Q (F0 m pc ls rest) q := by
  intro T hT X
  have hpl : e.platform.magicAccessors = ({} : Platform).magicAccessors := by rw [X.admits.platform]
  obtain ⟨c3, c4, hc3, hc4, hasg⟩ := Cond.castable_spec hcast
  cases Option.some.inj (hc3.symm.trans hcl)
  obtain ⟨c5, hc5, hcl5⟩ := Cond.classLink_spec hown hlink e.platform hpl
  cases Option.some.inj (hc4.symm.trans hc5)
  obtain ⟨vm', X', st⟩ := X.thenCaughtThrough q (g := F0 m pc ls rest) rfl (Steps.refl _) (by rw [hT]; exact hcell) (by rw [hv]; rfl) (by obtain ⟨k9, h9, -⟩ := Vm.findClass_spec hcl; exact ⟨k9, h9⟩) pre x suf hsplit
    (fun z hz => by
      rcases hpass z hz with h | ⟨hz0, nm, hl1, hn1⟩
      · exact Or.inl h
      · obtain ⟨c6, hc6, hcl6⟩ := Cond.classLink_spec hown hl1 e.platform hpl
        obtain ⟨a8, b8, h1, h2, h3⟩ := hn1
        cases Option.some.inj (h1.symm.trans hcl)
        cases Option.some.inj (h2.symm.trans hc6)
        exact Or.inr ⟨hz0, _, hcl6, h3⟩) hx (Or.inr ⟨h0, c4, hcl5, hasg⟩)
  obtain ⟨t, a1, b1⟩ := kk (T.setVm vm') hT X'
  exact ⟨t, st.trans a1, b1⟩
end Rows
section Ends
variable {p : Program} {l : Launch} {e : Env} {R : Room} {s : State} {m : MethodId} {args : Array Value} {below : List Frame} {meth : Method} {c : Code} {H : Heap} {locs : List Loc} {cells slots : Nat} {Q : State → Prop}
variable {mc ms : Nat} {free : Addr → Prop} {A0 A1 : Nat → Prop} {H0 : Heap} {a : Array Value} {ls : Array Slot} {st0 rest : List Value}
variable {Qc : Array Value → State → Outcome → State → Prop} {XC : String → State → State → Prop}
/-- what a body that may throw owes at its end -/
def vx_MQ (below : List Frame) (Qc : Array Value → State → Outcome → State → Prop) (XC : String → State → State → Prop) (a : Array Value) (s : State) (mc ms : Nat) (free : Addr → Prop) : State → Prop := fun t =>
  ∃ o, t.status = .running ∧ Ended t below o ∧ vx_Q Qc XC mc ms free a s o t
theorem vx_ret {g : JFrame} {mc ms : Nat} (k : W p l e R s m args below meth c H locs cells slots (MQ below Qc args s mc ms free) g) : W p l e R s m args below meth c H locs cells slots (vx_MQ below Qc XC args s mc ms free) g := by
  intro T hT X
  obtain ⟨t, a1, o, b1, b2, b3, b4⟩ := k T hT X
  exact ⟨t, a1, o, b1, b2, Or.inl ⟨b3, b4⟩⟩
/-- not caught here: it goes on to the caller -/
theorem vx_widen {g : JFrame} {q : Addr} {k n : Nat} (h1 : cells ≤ k) (h2 : slots ≤ n) (kk : vx_W p l e R s m args below meth c H locs k n Q g q) : vx_W p l e R s m args below meth c H locs cells slots Q g q := fun T hT X => kk T hT (stand_widen X h1 h2)
theorem vx_out {pc : Nat} {E : String} {ce : Cell} {q : Addr} {mc ms : Nat} (hout : ∀ x ∈ c.exceptionTable.toList, covers x pc = false) (hlocks : meth.locks = false) (hcell : H[q]? = some ce) (hv : ce.vm = .none) (hcl : s.vm.findClass E = some ce.cls)
    (hx : ∀ t : State, t.heap = H → s.vm.Alike t.vm → XC E s t) (hf : ∀ z ∈ locs, free z.base) (hc : cells ≤ mc) (hs : slots ≤ ms) :
    vx_W p l e R s m args below meth c H locs cells slots (vx_MQ below Qc XC args s mc ms free) (F0 m pc ls rest) q := by
  intro T hT X
  obtain ⟨st1, hrun, hend, hW, hsm⟩ := X.leaveThrown q (g := F0 m pc ls rest) rfl rfl rfl hout hlocks
  have hcell9 : (T.setFrames (.throwing q :: below)).heap[q]? = some ce := by
    show T.heap[q]? = some ce
    rw [hT]; exact hcell
  exact ⟨_, st1, .threw q, hrun, hend, Or.inr ⟨q, rfl, E, ce, locs, hx _ hT hW.alike, hcell9, hv, hcl, hW, hsm.mono hc hs, hf⟩⟩
theorem vx_frame {U : State} {k n : Nat} (h : s.sameButNew ({ U with vm := s.vm } : State) locs k n) : s.heap.size ≤ U.heap.size ∧ ∀ q : Nat, q < s.heap.size → (∀ z ∈ locs, z.base ≠ q) → U.heap[q]? = s.heap[q]? := by
  obtain ⟨-, h2, -, -, -, h6⟩ := h
  refine ⟨h2, fun q hq hz => ?_⟩
  obtain ⟨c9, e1, e2, e3, e4⟩ := h6 q _ (Array.getElem?_eq_getElem hq)
  have hs : c9.slots = (s.heap[q]).slots := Array.ext_getElem? fun i => e4 i fun hm => hz _ hm rfl
  have h9 : c9 = s.heap[q] := by
    rw [hs] at e2
    exact e2
  have e5 : U.heap[q]? = some c9 := e1
  rw [e5, h9, Array.getElem?_eq_getElem hq]
/-- the words of a throw but the four that speak of the heap -/
def vx_no (w : Cond) : Bool := decide (w ≠ .isRef (.static Bundle.tN "UNASSIGNED_STACK" Bundle.steD)) && decide (w ≠ .isRef (.static Bundle.tN "SUPPRESSED_SENTINEL" Bundle.listD)) && decide (w ≠ .laysStatic Bundle.tN "UNASSIGNED_STACK" Bundle.steD) && decide (w ≠ .laysStatic Bundle.tN "SUPPRESSED_SENTINEL" Bundle.listD)
def vx_at0 (own : String) (ic : Nat) (X : String) (names : List String) : List Cond := (Bundle.ownAtoms0 own ic X names).filter vx_no
def vx_atS (own : String) (ic : Nat) (X : String) (names : List String) : List Cond := (Bundle.ownAtoms own ic X names).filter vx_no
/-- a word that the tables alone decide, or a good one -/
def vx_ot (w : Cond) : Bool := w.onTables || goodWord w
theorem vx_ot_at {args a' : Array Value} {s U : State} {w : Cond} (hW : s.WarmedH U.vm) (hvm : s.vm = U.vm) (hg : vx_ot w = true) (h : w.before args s = true) : w.before a' U = true := by
  simp only [vx_ot, Bool.or_eq_true] at hg
  rcases hg with hg | hg
  · exact va_tabs hg hvm h
  · exact word_at hW (good_of_word hg) h
/-- a list's words: the good ones out of the method's own list, the others by premises of their own -/
theorem vx_hat {args : Array Value} {s : State} {L B : List Cond} (h1 : ∀ w ∈ L.filter goodWord, w.before args s = true) (h2 : ∀ w ∈ L.filter (fun w => !goodWord w), w ∈ B) (h3 : ∀ w ∈ B, w.before args s = true) : ∀ w ∈ L, w.before args s = true := by
  intro w hw
  by_cases g : goodWord w = true
  · exact h1 w (List.mem_filter.mpr ⟨hw, g⟩)
  · refine h3 w (h2 w (List.mem_filter.mpr ⟨hw, ?_⟩))
    show (!goodWord w) = true
    cases hgw : goodWord w
    · rfl
    · exact absurd hgw g
theorem vx_c {args : Array Value} {s : State} {w : Cond} {B : List Cond} (h : w.before args s = true) (t : ∀ w ∈ B, w.before args s = true) : ∀ w' ∈ w :: B, w'.before args s = true := fun w' h' => (List.mem_cons.mp h').elim (fun e => by rw [e]; exact h) (t w')
theorem vx_n {args : Array Value} {s : State} : ∀ w ∈ ([] : List Cond), w.before args s = true := fun _ h => nomatch h
theorem vx_own {args : Array Value} {s : State} {L : List Cond} (h1 : ∀ w ∈ L.filter vx_no, w.before args s = true)
    (hU : (Cond.isRef (.static Bundle.tN "UNASSIGNED_STACK" Bundle.steD)).before args s = true) (hN : (Cond.isRef (.static Bundle.tN "SUPPRESSED_SENTINEL" Bundle.listD)).before args s = true)
    (lU : (Cond.laysStatic Bundle.tN "UNASSIGNED_STACK" Bundle.steD).before args s = true) (lN : (Cond.laysStatic Bundle.tN "SUPPRESSED_SENTINEL" Bundle.listD).before args s = true) : ∀ w ∈ L, w.before args s = true := by
  intro w hw
  by_cases e1 : w = .isRef (.static Bundle.tN "UNASSIGNED_STACK" Bundle.steD)
  · rw [e1]; exact hU
  · by_cases e2 : w = .isRef (.static Bundle.tN "SUPPRESSED_SENTINEL" Bundle.listD)
    · rw [e2]; exact hN
    · by_cases e3 : w = .laysStatic Bundle.tN "UNASSIGNED_STACK" Bundle.steD
      · rw [e3]; exact lU
      · by_cases e4 : w = .laysStatic Bundle.tN "SUPPRESSED_SENTINEL" Bundle.listD
        · rw [e4]; exact lN
        · exact h1 w (List.mem_filter.mpr ⟨hw, by unfold vx_no; rw [decide_eq_true e1, decide_eq_true e2, decide_eq_true e3, decide_eq_true e4]; rfl⟩)
/-- where a static field lies, its class's statics cell in H -/
def vx_L (C n d : String) (A : Nat → Prop) (U : State) (H : Heap) : Prop := ∃ (c : ClassId) (k : Class) (i : Nat) (f : Field) (a : Nat) (cell : Cell), U.vm.findClass C = some c ∧ U.fieldFound? C n d = some (c, k, i, f) ∧ f.isStatic = true ∧ k.statics = some a ∧ H[a]? = some cell ∧ cell.vm.isStatics = true ∧ cell.cls = c ∧ f.slot < cell.slots.size ∧ k.staticTypes[f.slot]? = some f.type ∧ ¬ A a
theorem vx_L.moved {C n d : String} {A : Nat → Prop} {u U : State} {H : Heap} (hvm : u.vm.Alike U.vm) (h : vx_L C n d A u H) : vx_L C n d A U H := by
  obtain ⟨c, k, i, f, a, cell, h1, h2, h3, h4, h5, h6, h7, h8, h9, h10⟩ := h
  obtain ⟨k', hi', he⟩ := State.fieldFound?_setVm hvm h2
  exact ⟨c, k', i, f, a, cell, by rw [hvm.findClass]; exact h1, hi', h3, by rw [he]; exact h4, h5, h6, h7, h8, by rw [he]; exact h9, h10⟩
theorem vx_L.kept {C n d : String} {A : Nat → Prop} {U : State} {H H1 : Heap} (h : vx_L C n d A U H) (hq : ∀ a : Nat, a < H.size → ¬ A a → H1[a]? = H[a]?) : vx_L C n d A U H1 := by
  obtain ⟨c, k, i, f, a, cell, h1, h2, h3, h4, h5, h6, h7, h8, h9, h10⟩ := h
  exact ⟨c, k, i, f, a, cell, h1, h2, h3, h4, by rw [hq a (Array.getElem?_eq_some_iff.mp h5).1 h10]; exact h5, h6, h7, h8, h9, h10⟩
theorem vx_L.narrow {C n d : String} {A B : Nat → Prop} {U : State} {H : Heap} (h : vx_L C n d A U H) (hAB : ∀ q, B q → A q) : vx_L C n d B U H := by
  obtain ⟨c, k, i, f, a, cell, h1, h2, h3, h4, h5, h6, h7, h8, h9, h10⟩ := h
  exact ⟨c, k, i, f, a, cell, h1, h2, h3, h4, h5, h6, h7, h8, h9, fun z => h10 (hAB _ z)⟩
theorem vx_L.word {C n d : String} {A : Nat → Prop} {s : State} {args : Array Value} (h : vx_L C n d A s s.heap) : (Cond.laysStatic C n d).before args s = true := by
  obtain ⟨c, k, i, f, a, cell, h1, h2, h3, h4, h5, h6, h7, h8, h9, -⟩ := h
  show (Cond.laysStatic C n d).holds args s none s [] = true
  exact Cond.laysStatic_of h1 h2 h3 h4 h5 h6 h7 h8 h9
/-- .. and what it holds: null or some reference -/
def vx_Zq (C n d : String) (A : Nat → Prop) (U : State) (H : Heap) : Prop := va_Zq C n d A U H ∧ vx_L C n d A U H
theorem vx_Zq.moved {C n d : String} {A : Nat → Prop} {u U : State} {H : Heap} (hvm : u.vm.Alike U.vm) (h : vx_Zq C n d A u H) : vx_Zq C n d A U H := ⟨va_Zq.moved hvm h.1, vx_L.moved hvm h.2⟩
theorem vx_Zq.kept {C n d : String} {A : Nat → Prop} {U : State} {H H1 : Heap} (h : vx_Zq C n d A U H) (hq : ∀ a : Nat, a < H.size → ¬ A a → H1[a]? = H[a]?) : vx_Zq C n d A U H1 := ⟨va_Zq.kept h.1 hq, vx_L.kept h.2 hq⟩
theorem vx_Zq.narrow {C n d : String} {A B : Nat → Prop} {U : State} {H : Heap} (h : vx_Zq C n d A U H) (hAB : ∀ q, B q → A q) : vx_Zq C n d B U H := ⟨va_Zq.narrow h.1 hAB, vx_L.narrow h.2 hAB⟩
theorem vx_Zqof {args : Array Value} {s : State} {C n d : String} {A : Nat → Prop} (hl : (Cond.laysStatic C n d).before args s = true) (hini : (Cond.initialized C).before args s = true) (h : (Cond.isRef (.static C n d)).before args s = true) (hA : ∀ a : Nat, a < s.heap.size → ¬ A a) : vx_Zq C n d A s s.heap := by
  refine ⟨va_Zqof hl hini h hA, ?_⟩
  obtain ⟨c, k, i, f, a, cell, h1, h2, h3, h4, h5, h6, h7, h8, h9⟩ := Cond.laysStatic_spec hl
  exact ⟨c, k, i, f, a, cell, h1, h2, h3, h4, h5, h6, h7, h8, h9, hA a (Array.getElem?_eq_some_iff.mp h5).1⟩
theorem vx_isRef {C n d : String} {v : Value} {A : Nat → Prop} {s : State} {args : Array Value} (h : va_Z C n d v A s s.heap) (hv : v.isRef = true) : (Cond.isRef (.static C n d)).before args s = true := by
  obtain ⟨cf, kf, fi, f, a, cell, h1, h2, h3, h4, h5, h6, h7, -⟩ := h
  have he : (Term.static C n d).eval args s none [] s = some v := by
    simp [Term.eval, State.fieldNamed?, h1, h2, h4, h5, h6, h7]
  simp only [Cond.before, Cond.holds, Cond.value, he]
  cases v <;> simp_all [Value.isRef]
theorem vx_isRefq {C n d : String} {A : Nat → Prop} {s : State} {args : Array Value} (h : va_Zq C n d A s s.heap) : (Cond.isRef (.static C n d)).before args s = true := by
  rcases h with h | ⟨t, h⟩
  · exact vx_isRef h rfl
  · exact vx_isRef h rfl
/-- the same frame, seen from here: as if the method were called anew in this heap -/
theorem vx_rebase {T : State} (X : Stand p l e R s m args below meth c T locs cells slots) {R' : Room} (hf : R'.frames ≤ R.frames) (hl : R'.locals ≤ R.locals) (hc : cells + R'.cells ≤ R.cells) (hs : slots + R'.slots ≤ R.slots) :
    Stand p l e R' ((T.setVm s.vm).setFrames (.invoking m args :: below)) m args below meth c T [] 0 0 := by
  have htop : (T.setVm s.vm).topJava?.isSome := X.here.top
  have hF : ((T.setVm s.vm).setFrames (.invoking m args :: below)).frames = .invoking m args :: below := State.frames_setFrames _ (State.cur_lt_of_top htop)
  obtain ⟨g₀, hg0⟩ := Option.isSome_iff_exists.mp htop
  obtain ⟨r, hr⟩ := State.topJava?_eq_some.mp hg0
  have hl9 : e.platform.stackLimits (T.setVm s.vm).me = e.platform.stackLimits s.me := X.limits
  have hb9 : (T.setVm s.vm).me.stackBytes = s.me.stackBytes := X.bytes
  refine ⟨X.admits, X.cas, X.clock, hF, ?_, X.hears, X.method, X.code, X.here, X.tail, X.warmed, ?_, ?_, ?_⟩
  · have h := X.room
    have hU : ((T.setVm s.vm).setFrames (.invoking m args :: below)).localsInUse = s.localsInUse := by
      rw [State.localsInUse_invoking hF (meth := meth) (c := c) X.method X.code, State.localsInUse_invoking X.frames X.method X.code]
    simp only [State.hasRoom, Bool.and_eq_true, decide_eq_true_eq] at h ⊢
    obtain ⟨⟨⟨⟨h1, h2, h3, h4, h5, h6⟩, h7⟩, h8⟩, h9⟩ := h
    rw [X.frames, List.length_cons] at h2 h3
    have q1 := X.heapSize
    have q2 := X.used
    simp only [hF, hU, List.length_cons, State.stackLimits_setFrames, State.stackBytes_setFrames, hl9, hb9]
    refine ⟨⟨⟨⟨by omega, by omega, by omega, by omega, by omega, h6⟩, ?_⟩, ?_⟩, X.book⟩
    · show T.heap.size + R'.cells ≤ e.platform.maxCells
      omega
    · show T.slotsUsed + R'.slots ≤ e.platform.maxSlots
      omega
  · rw [State.stackLimits_setFrames]; rfl
  · rw [State.stackBytes_setFrames]; rfl
  · refine ⟨?_, Nat.le_refl _, Nat.le_refl _, ?_, ?_, fun a c9 h9 => ⟨c9, h9, rfl, rfl, fun _ _ => rfl⟩⟩
    · obtain ⟨t, ht, -⟩ := State.frames_cons hr
      show T.setVm s.vm = { ((T.setVm s.vm).setFrames (.invoking m args :: below)).setFrames (T.setVm s.vm).frames with heap := T.heap, slotsUsed := T.slotsUsed }
      rw [State.setFrames_setFrames, State.setFrames_self ht]
      rfl
    · show T.slotsUsed = T.slotsUsed + ((T.heap.toList.drop T.heap.size).map (·.slots.size)).sum
      rw [List.drop_eq_nil_of_le (Nat.le_of_eq Array.length_toList)]
      rfl
    · show ((T.heap.toList.drop T.heap.size).map (·.slots.size)).sum ≤ 0
      rw [List.drop_eq_nil_of_le (Nat.le_of_eq Array.length_toList)]
      exact Nat.le_refl _
/-- 'throw new E()': new; dup; invokespecial; athrow -/
theorem vx_throw0 {cc : ByteArray} {pc : Nat} (hexec : p.tables.exec = Jvm.exec) (hb : c.code = cc) (hl : l.stackTraces = false) {own cls : String} {names : List String} {ik ic mc ms : Nat} {A : Nat → Prop}
    (hown : s.vm.findClass own = some m.cls) (hcls : Bundle.fit cls = true) (hnames : ∀ n ∈ names, Bundle.fit n = true)
    (hk : (Cond.classLink own ik cls).before args s = true) (hini : (Cond.initialized cls).before args s = true) (hat : ∀ w ∈ vx_at0 own ic cls names, w.before args s = true)
    (hgood : ∀ w ∈ Cond.classLink own ik cls :: Cond.initialized cls :: vx_at0 own ic cls names, vx_ot w = true)
    (hU : vx_Zq Bundle.tN "UNASSIGNED_STACK" Bundle.steD A s s.heap) (hN : vx_Zq Bundle.tN "SUPPRESSED_SENTINEL" Bundle.listD A s s.heap) (hS : va_S A s.heap H locs) (hsize : ls.size = c.maxLocals)
    (d0 : decode cc pc = .ok (.new ik, 3)) (d3 : decode cc (pc + 3) = .ok (.dup, 1)) (d4 : decode cc (pc + 4) = .ok (.invokespecial ic, 3)) (d7 : decode cc (pc + 7) = .ok (.athrow, 1))
    (hout : ∀ x ∈ c.exceptionTable.toList, covers x (pc + 7) = false)
    (hRframes : names.length + 3 < R.frames) (hRlocals : (rest.map fun v => v.category).sum + (13 * (names.length + 1) + 42) ≤ R.locals) (hRcells : cells + 1 ≤ R.cells) (hRslots : slots + 6 ≤ R.slots) (hlocks : meth.locks = false)
    (hx : ∀ t : State, s.vm.Alike t.vm → H.size ≤ t.heap.size → (∀ q : Nat, q < H.size → t.heap[q]? = H[q]?) → XC cls s t)
    (hf : ∀ z ∈ locs, free z.base) (hc : cells + 1 ≤ mc) (hs : slots + 6 ≤ ms) :
    W p l e R s m args below meth c H locs cells slots (vx_MQ below Qc XC args s mc ms free) (F0 m pc ls rest) := by
  intro T hT X
  have htr : e.platform.stackTraces = false := (show e.platform.stackTraces = l.stackTraces by rw [X.admits.platform]).trans hl
  have Y := vx_rebase X (R' := { frames := R.frames, locals := R.locals, cells := 1, slots := 6 }) (Nat.le_refl _) (Nat.le_refl _) hRcells hRslots
  obtain ⟨s', hA⟩ : ∃ z, z = (T.setVm s.vm).setFrames (.invoking m args :: below) := ⟨_, rfl⟩
  rw [← hA] at Y
  have hvm : s'.vm = s.vm := by rw [hA]; rfl
  have hhp : s'.heap = H := by rw [hA]; exact hT
  have hW0 : s.WarmedH s'.vm := by rw [hvm]; exact State.WarmedH.refl s
  have hat' : ∀ w ∈ vx_at0 own ic cls names, w.before args s' = true := fun w hw => vx_ot_at hW0 hvm.symm (hgood w (List.mem_cons_of_mem _ (List.mem_cons_of_mem _ hw))) (hat w hw)
  have hk' : (Cond.classLink own ik cls).before args s' = true := vx_ot_at hW0 hvm.symm (hgood _ List.mem_cons_self) hk
  have hini' : (Cond.initialized cls).before args s' = true := vx_ot_at hW0 hvm.symm (hgood _ (List.mem_cons_of_mem _ List.mem_cons_self)) hini
  have hU' : vx_Zq Bundle.tN "UNASSIGNED_STACK" Bundle.steD A s' s'.heap := by rw [hhp]; exact vx_Zq.moved hW0.alike (hU.kept hS.2.1)
  have hN' : vx_Zq Bundle.tN "SUPPRESSED_SENTINEL" Bundle.listD A s' s'.heap := by rw [hhp]; exact vx_Zq.moved hW0.alike (hN.kept hS.2.1)
  have h : ∀ w ∈ Bundle.ownAtoms0 own ic cls names, w.before args s' = true := vx_own hat' (vx_isRefq hU'.1) (vx_isRefq hN'.1) hU'.2.word hN'.2.word
  have hown' : s'.vm.findClass own = some m.cls := by rw [hvm]; exact hown
  have hins : (Cond.instantiable cls 6).before args s' = true := h _ (by simp [Bundle.ownAtoms0])
  obtain ⟨vm₁, cX, kX, hfX, hkX, -, -, X₁, st1⟩ := Y.newCold hexec (own := own) (C := cls) (index := ik) (n := 6) hown' hk' hins hini'
    (g := F0 m pc ls rest) rfl (by rw [hb]; exact d0) (Nat.le_refl _) (Nat.le_refl _)
  generalize hT1 : (T.setVm vm₁).pushCell { cls := cX, slots := kX.instanceTypes.map defaultValue, vm := .none } = T1 at X₁ st1
  have hcat : (Value.ref T.heap.size).category = 1 := rfl
  have hcellA : T1.heap[T.heap.size]? = some (freshCell cX kX) := by rw [← hT1]; exact State.heap_pushCell_size _ _
  have d3' : decode c.code (pc + 3) = .ok (.dup, 1) := by rw [hb]; exact d3
  obtain ⟨U, hsteps, hrun, hend, hW, hsame, ce, hce, hO⟩ := X₁.ctorThrow0 hexec htr (own := own) (cls := cls) (names := names) (ic := ic) hown' hcls hnames h (fun x hx => nomatch hx) hfX hkX hcellA (by rw [hhp, hT]; exact Nat.le_refl _)
    (g := { method := m, pc := pc + 4, locals := ls, stack := .ref T.heap.size :: .ref T.heap.size :: rest, locked := none }) rfl hsize rfl rfl (rest := rest) rfl
    (by rw [hb]; exact d4) (by rw [hb]; exact d7) hout hRframes (by simp only [List.map_cons, List.sum_cons, hcat]; omega) hlocks
  obtain ⟨f1, f2⟩ := vx_frame hsame
  rw [hhp] at f1 f2
  have hWs : s.WarmedH U.vm := State.WarmedH.trans hW0 hW
  have hcl : s.vm.findClass cls = some ce.cls := by
    have h9 := hO.cls
    rw [hvm] at h9
    exact h9
  have hall : s.sameButNew ({ U with vm := s.vm } : State) locs mc ms := by
    subst hA
    obtain ⟨e1, e2⟩ := hsame
    rw [State.setFrames_setFrames] at e1
    have h2 : (T.setVm s.vm).sameButNew ({ U with vm := s.vm } : State) [] (0 + 1) (0 + 6) := ⟨e1, e2⟩
    have h3 := X.same.trans h2
    rw [List.append_nil] at h3
    exact h3.mono hc hs
  refine ⟨U, ?_, .threw T.heap.size, hrun, hend, Or.inr ⟨T.heap.size, rfl, cls, ce, locs, hx U hWs.alike f1 (fun q hq => f2 q hq (fun z hz => nomatch hz)), hce, hO.vm, hcl, hWs, hall, hf⟩⟩
  refine st1 _ ?_
  show Steps p.tables e below (T1.setTop { method := m, pc := pc + 3, locals := ls, stack := .ref T.heap.size :: rest, locked := none }) _
  jvm_step X₁.here [X₁.here.top, hexec, d3', Value.category]
  exact hsteps
/-- 'throw new E("text")': new; dup; ldc; invokespecial; athrow -/
theorem vx_throwS {cc : ByteArray} {pc : Nat} (hexec : p.tables.exec = Jvm.exec) (hb : c.code = cc) (hl : l.stackTraces = false) {own cls text : String} {names : List String} {ik is ic mc ms sa : Nat} {A : Nat → Prop}
    (hown : s.vm.findClass own = some m.cls) (hcls : Bundle.fit cls = true) (hnames : ∀ n ∈ names, Bundle.fit n = true)
    (hk : (Cond.classLink own ik cls).before args s = true) (hini : (Cond.initialized cls).before args s = true) (hstr : vk_R own is text sa s) (hat : ∀ w ∈ vx_atS own ic cls names, w.before args s = true)
    (hgood : ∀ w ∈ Cond.classLink own ik cls :: Cond.initialized cls :: vx_atS own ic cls names, vx_ot w = true)
    (hU : vx_Zq Bundle.tN "UNASSIGNED_STACK" Bundle.steD A s s.heap) (hN : vx_Zq Bundle.tN "SUPPRESSED_SENTINEL" Bundle.listD A s s.heap) (hS : va_S A s.heap H locs) (hsize : ls.size = c.maxLocals)
    (d0 : decode cc pc = .ok (.new ik, 3)) (d3 : decode cc (pc + 3) = .ok (.dup, 1)) (d4 : decode cc (pc + 4) = .ok (.ldc is, 2)) (d6 : decode cc (pc + 6) = .ok (.invokespecial ic, 3)) (d9 : decode cc (pc + 9) = .ok (.athrow, 1))
    (hout : ∀ x ∈ c.exceptionTable.toList, covers x (pc + 9) = false)
    (hRframes : names.length + 3 < R.frames) (hRlocals : (rest.map fun v => v.category).sum + (13 * (names.length + 1) + 43) ≤ R.locals) (hRcells : cells + 1 ≤ R.cells) (hRslots : slots + 6 ≤ R.slots) (hlocks : meth.locks = false)
    (hx : ∀ t : State, s.vm.Alike t.vm → H.size ≤ t.heap.size → (∀ q : Nat, q < H.size → t.heap[q]? = H[q]?) → XC cls s t)
    (hf : ∀ z ∈ locs, free z.base) (hc : cells + 1 ≤ mc) (hs : slots + 6 ≤ ms) :
    W p l e R s m args below meth c H locs cells slots (vx_MQ below Qc XC args s mc ms free) (F0 m pc ls rest) := by
  intro T hT X
  have htr : e.platform.stackTraces = false := (show e.platform.stackTraces = l.stackTraces by rw [X.admits.platform]).trans hl
  have Y := vx_rebase X (R' := { frames := R.frames, locals := R.locals, cells := 1, slots := 6 }) (Nat.le_refl _) (Nat.le_refl _) hRcells hRslots
  obtain ⟨s', hA⟩ : ∃ z, z = (T.setVm s.vm).setFrames (.invoking m args :: below) := ⟨_, rfl⟩
  rw [← hA] at Y
  have hvm : s'.vm = s.vm := by rw [hA]; rfl
  have hhp : s'.heap = H := by rw [hA]; exact hT
  have hW0 : s.WarmedH s'.vm := by rw [hvm]; exact State.WarmedH.refl s
  have hat' : ∀ w ∈ vx_atS own ic cls names, w.before args s' = true := fun w hw => vx_ot_at hW0 hvm.symm (hgood w (List.mem_cons_of_mem _ (List.mem_cons_of_mem _ hw))) (hat w hw)
  have hk' : (Cond.classLink own ik cls).before args s' = true := vx_ot_at hW0 hvm.symm (hgood _ List.mem_cons_self) hk
  have hini' : (Cond.initialized cls).before args s' = true := vx_ot_at hW0 hvm.symm (hgood _ (List.mem_cons_of_mem _ List.mem_cons_self)) hini
  have hU' : vx_Zq Bundle.tN "UNASSIGNED_STACK" Bundle.steD A s' s'.heap := by rw [hhp]; exact vx_Zq.moved hW0.alike (hU.kept hS.2.1)
  have hN' : vx_Zq Bundle.tN "SUPPRESSED_SENTINEL" Bundle.listD A s' s'.heap := by rw [hhp]; exact vx_Zq.moved hW0.alike (hN.kept hS.2.1)
  have h : ∀ w ∈ Bundle.ownAtoms own ic cls names, w.before args s' = true := vx_own hat' (vx_isRefq hU'.1) (vx_isRefq hN'.1) hU'.2.word hN'.2.word
  have hown' : s'.vm.findClass own = some m.cls := by rw [hvm]; exact hown
  have hins : (Cond.instantiable cls 6).before args s' = true := h _ (by simp [Bundle.ownAtoms])
  obtain ⟨vm₁, cX, kX, hfX, hkX, -, -, X₁, st1⟩ := Y.newCold hexec (own := own) (C := cls) (index := ik) (n := 6) hown' hk' hins hini'
    (g := F0 m pc ls rest) rfl (by rw [hb]; exact d0) (Nat.le_refl _) (Nat.le_refl _)
  generalize hT1 : (T.setVm vm₁).pushCell { cls := cX, slots := kX.instanceTypes.map defaultValue, vm := .none } = T1 at X₁ st1
  have hcat : (Value.ref T.heap.size).category = 1 := rfl
  have hcellA : T1.heap[T.heap.size]? = some (freshCell cX kX) := by rw [← hT1]; exact State.heap_pushCell_size _ _
  have d3' : decode c.code (pc + 3) = .ok (.dup, 1) := by rw [hb]; exact d3
  have d4' : decode c.code (pc + 4) = .ok (.ldc is, 2) := by rw [hb]; exact d4
  have hstr' : vk_R own is text sa s' := vk_R.warm hW0 hstr
  obtain ⟨U, hsteps, hrun, hend, hW, hsame, ce, hce, hO⟩ := X₁.ctorThrowS hexec htr (own := own) (cls := cls) (names := names) (ic := ic) hown' hcls hnames h (fun x hx => nomatch hx) hfX hkX hcellA (by rw [hhp, hT]; exact Nat.le_refl _) (msg := .ref sa) rfl
    (g := { method := m, pc := pc + 6, locals := ls, stack := .ref sa :: .ref T.heap.size :: .ref T.heap.size :: rest, locked := none }) rfl hsize rfl rfl (rest := rest) rfl
    (by rw [hb]; exact d6) (by rw [hb]; exact d9) hout hRframes (by simp only [List.map_cons, List.sum_cons, hcat]; omega) hlocks
  obtain ⟨f1, f2⟩ := vx_frame hsame
  rw [hhp] at f1 f2
  have hWs : s.WarmedH U.vm := State.WarmedH.trans hW0 hW
  have hcl : s.vm.findClass cls = some ce.cls := by
    have h9 := hO.cls
    rw [hvm] at h9
    exact h9
  have hall : s.sameButNew ({ U with vm := s.vm } : State) locs mc ms := by
    subst hA
    obtain ⟨e1, e2⟩ := hsame
    rw [State.setFrames_setFrames] at e1
    have h2 : (T.setVm s.vm).sameButNew ({ U with vm := s.vm } : State) [] (0 + 1) (0 + 6) := ⟨e1, e2⟩
    have h3 := X.same.trans h2
    rw [List.append_nil] at h3
    exact h3.mono hc hs
  refine ⟨U, ?_, .threw T.heap.size, hrun, hend, Or.inr ⟨T.heap.size, rfl, cls, ce, locs, hx U hWs.alike f1 (fun q hq => f2 q hq (fun z hz => nomatch hz)), hce, hO.vm, hcl, hWs, hall, hf⟩⟩
  refine st1 _ ?_
  show Steps p.tables e below (T1.setTop { method := m, pc := pc + 3, locals := ls, stack := .ref T.heap.size :: rest, locked := none }) _
  jvm_step X₁.here [X₁.here.top, hexec, d3', Value.category]
  exact X₁.ldcString hexec (own := own) (text := text) (index := is) (a := sa) hown' hstr'.1 hstr'.2
    (g := { method := m, pc := pc + 4, locals := ls, stack := .ref T.heap.size :: .ref T.heap.size :: rest, locked := none }) rfl d4' _ hsteps
/-- 'throw new E("text")', the text by a wide index -/
theorem vx_throwSW {cc : ByteArray} {pc : Nat} (hexec : p.tables.exec = Jvm.exec) (hb : c.code = cc) (hl : l.stackTraces = false) {own cls text : String} {names : List String} {ik is ic mc ms sa : Nat} {A : Nat → Prop}
    (hown : s.vm.findClass own = some m.cls) (hcls : Bundle.fit cls = true) (hnames : ∀ n ∈ names, Bundle.fit n = true)
    (hk : (Cond.classLink own ik cls).before args s = true) (hini : (Cond.initialized cls).before args s = true) (hstr : vk_R own is text sa s) (hat : ∀ w ∈ vx_atS own ic cls names, w.before args s = true)
    (hgood : ∀ w ∈ Cond.classLink own ik cls :: Cond.initialized cls :: vx_atS own ic cls names, vx_ot w = true)
    (hU : vx_Zq Bundle.tN "UNASSIGNED_STACK" Bundle.steD A s s.heap) (hN : vx_Zq Bundle.tN "SUPPRESSED_SENTINEL" Bundle.listD A s s.heap) (hS : va_S A s.heap H locs) (hsize : ls.size = c.maxLocals)
    (d0 : decode cc pc = .ok (.new ik, 3)) (d3 : decode cc (pc + 3) = .ok (.dup, 1)) (d4 : decode cc (pc + 4) = .ok (.ldc_w is, 3)) (d7 : decode cc (pc + 7) = .ok (.invokespecial ic, 3)) (d10 : decode cc (pc + 10) = .ok (.athrow, 1))
    (hout : ∀ x ∈ c.exceptionTable.toList, covers x (pc + 10) = false)
    (hRframes : names.length + 3 < R.frames) (hRlocals : (rest.map fun v => v.category).sum + (13 * (names.length + 1) + 43) ≤ R.locals) (hRcells : cells + 1 ≤ R.cells) (hRslots : slots + 6 ≤ R.slots) (hlocks : meth.locks = false)
    (hx : ∀ t : State, s.vm.Alike t.vm → H.size ≤ t.heap.size → (∀ q : Nat, q < H.size → t.heap[q]? = H[q]?) → XC cls s t)
    (hf : ∀ z ∈ locs, free z.base) (hc : cells + 1 ≤ mc) (hs : slots + 6 ≤ ms) :
    W p l e R s m args below meth c H locs cells slots (vx_MQ below Qc XC args s mc ms free) (F0 m pc ls rest) := by
  intro T hT X
  have htr : e.platform.stackTraces = false := (show e.platform.stackTraces = l.stackTraces by rw [X.admits.platform]).trans hl
  have Y := vx_rebase X (R' := { frames := R.frames, locals := R.locals, cells := 1, slots := 6 }) (Nat.le_refl _) (Nat.le_refl _) hRcells hRslots
  obtain ⟨s', hA⟩ : ∃ z, z = (T.setVm s.vm).setFrames (.invoking m args :: below) := ⟨_, rfl⟩
  rw [← hA] at Y
  have hvm : s'.vm = s.vm := by rw [hA]; rfl
  have hhp : s'.heap = H := by rw [hA]; exact hT
  have hW0 : s.WarmedH s'.vm := by rw [hvm]; exact State.WarmedH.refl s
  have hat' : ∀ w ∈ vx_atS own ic cls names, w.before args s' = true := fun w hw => vx_ot_at hW0 hvm.symm (hgood w (List.mem_cons_of_mem _ (List.mem_cons_of_mem _ hw))) (hat w hw)
  have hk' : (Cond.classLink own ik cls).before args s' = true := vx_ot_at hW0 hvm.symm (hgood _ List.mem_cons_self) hk
  have hini' : (Cond.initialized cls).before args s' = true := vx_ot_at hW0 hvm.symm (hgood _ (List.mem_cons_of_mem _ List.mem_cons_self)) hini
  have hU' : vx_Zq Bundle.tN "UNASSIGNED_STACK" Bundle.steD A s' s'.heap := by rw [hhp]; exact vx_Zq.moved hW0.alike (hU.kept hS.2.1)
  have hN' : vx_Zq Bundle.tN "SUPPRESSED_SENTINEL" Bundle.listD A s' s'.heap := by rw [hhp]; exact vx_Zq.moved hW0.alike (hN.kept hS.2.1)
  have h : ∀ w ∈ Bundle.ownAtoms own ic cls names, w.before args s' = true := vx_own hat' (vx_isRefq hU'.1) (vx_isRefq hN'.1) hU'.2.word hN'.2.word
  have hown' : s'.vm.findClass own = some m.cls := by rw [hvm]; exact hown
  have hins : (Cond.instantiable cls 6).before args s' = true := h _ (by simp [Bundle.ownAtoms])
  obtain ⟨vm₁, cX, kX, hfX, hkX, -, -, X₁, st1⟩ := Y.newCold hexec (own := own) (C := cls) (index := ik) (n := 6) hown' hk' hins hini'
    (g := F0 m pc ls rest) rfl (by rw [hb]; exact d0) (Nat.le_refl _) (Nat.le_refl _)
  generalize hT1 : (T.setVm vm₁).pushCell { cls := cX, slots := kX.instanceTypes.map defaultValue, vm := .none } = T1 at X₁ st1
  have hcat : (Value.ref T.heap.size).category = 1 := rfl
  have hcellA : T1.heap[T.heap.size]? = some (freshCell cX kX) := by rw [← hT1]; exact State.heap_pushCell_size _ _
  have d3' : decode c.code (pc + 3) = .ok (.dup, 1) := by rw [hb]; exact d3
  have d4' : decode c.code (pc + 4) = .ok (.ldc_w is, 3) := by rw [hb]; exact d4
  have hstr' : vk_R own is text sa s' := vk_R.warm hW0 hstr
  obtain ⟨U, hsteps, hrun, hend, hW, hsame, ce, hce, hO⟩ := X₁.ctorThrowS hexec htr (own := own) (cls := cls) (names := names) (ic := ic) hown' hcls hnames h (fun x hx => nomatch hx) hfX hkX hcellA (by rw [hhp, hT]; exact Nat.le_refl _) (msg := .ref sa) rfl
    (g := { method := m, pc := pc + 7, locals := ls, stack := .ref sa :: .ref T.heap.size :: .ref T.heap.size :: rest, locked := none }) rfl hsize rfl rfl (rest := rest) rfl
    (by rw [hb]; exact d7) (by rw [hb]; exact d10) hout hRframes (by simp only [List.map_cons, List.sum_cons, hcat]; omega) hlocks
  obtain ⟨f1, f2⟩ := vx_frame hsame
  rw [hhp] at f1 f2
  have hWs : s.WarmedH U.vm := State.WarmedH.trans hW0 hW
  have hcl : s.vm.findClass cls = some ce.cls := by
    have h9 := hO.cls
    rw [hvm] at h9
    exact h9
  have hall : s.sameButNew ({ U with vm := s.vm } : State) locs mc ms := by
    subst hA
    obtain ⟨e1, e2⟩ := hsame
    rw [State.setFrames_setFrames] at e1
    have h2 : (T.setVm s.vm).sameButNew ({ U with vm := s.vm } : State) [] (0 + 1) (0 + 6) := ⟨e1, e2⟩
    have h3 := X.same.trans h2
    rw [List.append_nil] at h3
    exact h3.mono hc hs
  refine ⟨U, ?_, .threw T.heap.size, hrun, hend, Or.inr ⟨T.heap.size, rfl, cls, ce, locs, hx U hWs.alike f1 (fun q hq => f2 q hq (fun z hz => nomatch hz)), hce, hO.vm, hcl, hWs, hall, hf⟩⟩
  refine st1 _ ?_
  show Steps p.tables e below (T1.setTop { method := m, pc := pc + 3, locals := ls, stack := .ref T.heap.size :: rest, locked := none }) _
  jvm_step X₁.here [X₁.here.top, hexec, d3', Value.category]
  exact X₁.ldcStringW hexec (own := own) (text := text) (index := is) (a := sa) hown' hstr'.1 hstr'.2
    (g := { method := m, pc := pc + 4, locals := ls, stack := .ref T.heap.size :: .ref T.heap.size :: rest, locked := none }) rfl d4' _ hsteps
end Ends
section Bodies
variable {l : Launch}
theorem vx_ofW {y : MethodName} {ws ws' : List Cond} {rm : Room} {Pc : Array Value → State → Prop} {Qc : Array Value → State → Outcome → State → Prop} {XC : String → State → State → Prop} {mc ms : Nat} {free : Addr → Prop} {cc : ByteArray} {maxL : Nat} {ret : Option FieldType}
    (hy : plainName y.cls = true) (hw : ws = Cond.code y cc maxL ret :: ws')
    (body : ∀ p e s m args below meth c s₁, BodyLoose p l y (headSpec ws rm) cc maxL ret e s m args below meth c s₁ → c.maxLocals = maxL → (∀ x ∈ c.exceptionTable.toList, False) → Pc args s →
      W p l e (headSpec ws rm).room s m args below meth c s.heap [] 0 0 (vx_MQ below Qc XC args s mc ms free) (entryFrame m args maxL)) : vx_Met l y ws rm Pc Qc XC mc ms free := by
  refine MetFree.of_bodyS (code := cc) (maxLocals := maxL) (ret := ret) hy ?_ ?_
  · intro args s m h hn
    obtain ⟨meth, c, h1, h2, h3, h4, h5, h6, -, -⟩ := Cond.code_spec hn (atoms_spec (ws := ws) h _ (by rw [hw]; exact List.mem_cons_self))
    exact ⟨meth, c, h1, h2, h3, h4, h5, h6⟩
  · intro p e s m args below meth c s₁ B hml hP _
    have hh0 : s₁.heap = s.heap := by rw [B.state]; rfl
    have ht : ∀ x ∈ c.exceptionTable.toList, False := by
      obtain ⟨meth9, c9, h1, h2, -, -, -, -, h7, -⟩ := Cond.code_spec B.named (atoms_spec (ws := ws) B.pre _ (by rw [hw]; exact List.mem_cons_self))
      cases Option.some.inj (h1.symm.trans B.method)
      cases Option.some.inj (h2.symm.trans (Stand.of_body B).code)
      intro x hx
      rw [Array.isEmpty_iff.mp h7] at hx
      cases hx
    obtain ⟨t, a1, o, b1, b2, b3⟩ := body p e s m args below meth c s₁ B hml ht hP s₁ hh0 (Stand.of_body B)
    exact ⟨t, o, a1, b1, b2, b3⟩
/-- the table of a body with handlers -/
theorem vx_table {p : Program} {x y : MethodName} {S : Spec} {cc bytes : ByteArray} {maxL maxL' : Nat} {ret ret' : Option FieldType} {e : Env} {s s₁ : State} {m : MethodId} {args : Array Value} {below : List Frame} {meth : Method} {c : Code} {hh : List (Nat × Nat × Nat × Nat)}
    (B : BodyLoose p l y S cc maxL ret e s m args below meth c s₁) (h : (Cond.codeWith y bytes maxL' ret' hh).before args s = true) : c.exceptionTable.toList = tableOf hh := by
  obtain ⟨m9, meth9, c9, hn9, h1, h2, -, -, h6, -⟩ := Cond.codeWith_spec h
  cases Option.some.inj (hn9.symm.trans B.named)
  cases Option.some.inj (h1.symm.trans B.method)
  cases Option.some.inj (h2.symm.trans (Stand.of_body B).code)
  rw [← h6, table_eq]
end Bodies
end VXA
/-! ===== END ===== -/
/-! ===== BEGIN a static call of a method with an exception table ===== -/
section VXS
variable {p : Program} {l : Launch} {e : Env} {R : Room} {s : State} {m : MethodId} {args : Array Value} {below : List Frame} {meth : Method} {c : Code} {T : State} {H : Heap} {locs : List Loc} {cells slots : Nat}
abbrev vx_CSW (R : Room) (s : State) (args : Array Value) (own : String) (index : Nat) (y : MethodName) (bytes : ByteArray) (maxL : Nat) (ret : Option FieldType) (hh : List (Nat × Nat × Nat × Nat)) (ws : List Cond) (rm : Room) (mc ms n : Nat) : Prop :=
  (rm.cells = mc ∧ rm.slots = ms ∧ rm.frames + 1 ≤ R.frames ∧ 8 + (maxL + 11) + rm.locals ≤ R.locals ∧ (∀ w ∈ ws, ∀ (a' : Array Value) (U : State), s.WarmedH U.vm → w.before a' U = true) ∧ Cond.codeWith y bytes maxL ret hh ∈ ws) ∧
  (Cond.codeWith y bytes maxL ret hh).before args s = true ∧ (Cond.initialized y.cls).before args s = true ∧ (y.cls ≠ "java/lang/invoke/MethodHandle" ∧ y.cls ≠ "java/lang/invoke/VarHandle") ∧
  (∀ sig, parseMethodDescriptor y.desc = some sig → n = sig.parameters.length) ∧ (Cond.methodLink own index y).before args s = true ∧ (Cond.static y).before args s = true
theorem vx_cwSW {own : String} {index maxL mc ms : Nat} {y : MethodName} {bytes : ByteArray} {ret : Option FieldType} {hh : List (Nat × Nat × Nat × Nat)} {Ts ws ws' : List Cond} {rm : Room} (n : Nat) (ht : ∀ w ∈ Ts, w.before args s = true) (hT : GoodIn Ts (va_wsS own index y ws)) (hw : ws = Cond.codeWith y bytes maxL ret hh :: ws') (hrc : rm.cells = mc) (hrs : rm.slots = ms)
    (hd : y.cls ≠ "java/lang/invoke/MethodHandle" ∧ y.cls ≠ "java/lang/invoke/VarHandle" ∧ (parseMethodDescriptor y.desc).map (fun d => d.parameters.length) = some n) (hR : rm.frames + 1 ≤ R.frames ∧ 8 + (maxL + 11) + rm.locals ≤ R.locals) :
    vx_CSW R s args own index y bytes maxL ret hh ws rm mc ms n := by
  have ok : ∀ w ∈ va_wsS own index y ws, w.before args s = true := fun w h => ht w (hT w h).1
  have hG : GoodIn Ts ws := fun w h => hT w (by unfold va_wsS; exact List.mem_append_right _ h)
  have hc : Cond.codeWith y bytes maxL ret hh ∈ ws := by rw [hw]; exact List.mem_cons_self
  refine ⟨⟨hrc, hrs, hR.1, hR.2, pay_in ht hG, hc⟩, ht _ (hG _ hc).1, ok _ (by simp [va_wsS]), ⟨hd.1, hd.2.1⟩, fun sig h => ?_, ok _ (by simp [va_wsS]), ok _ (by simp [va_wsS])⟩
  have h2 := hd.2.2
  rw [h] at h2
  exact (Option.some.inj h2).symm
theorem vx_callSW (X : Stand p l e R s m args below meth c T locs cells slots) (hexec : p.tables.exec = Jvm.exec) {own : String} {index : Nat} {y : MethodName} {bytes : ByteArray} {maxL : Nat} {ret : Option FieldType} {hh : List (Nat × Nat × Nat × Nat)}
    (hown : s.vm.findClass own = some m.cls) (hlink : (Cond.methodLink own index y).before args s = true) (hstat : (Cond.static y).before args s = true) (hinit : (Cond.initialized y.cls).before args s = true)
    (hcode : (Cond.codeWith y bytes maxL ret hh).before args s = true) (hy : y.cls ≠ "java/lang/invoke/MethodHandle" ∧ y.cls ≠ "java/lang/invoke/VarHandle")
    {W9 : Nat} {Pre : Pt → Array Value → Prop} {Post : Pt → Array Value → Option Value → Pt → Prop} (hK : Back l R p e below s args y 3 W9 Pre Post)
    {g : JFrame} (hg : g.method = m) (hsize : g.locals.size = c.maxLocals) {argsL rest : List Value} (hlen : ∀ sig, parseMethodDescriptor y.desc = some sig → argsL.length = sig.parameters.length)
    (hstack : g.stack = argsL.reverse ++ rest) (hW : 2 * g.monitorRoom + (rest.map fun v => v.category).sum ≤ W9) (hdg : decode c.code g.pc = .ok (.invokestatic index, 3))
    (hpre : ∀ vm₁, s.WarmedH vm₁ → Pre ⟨T.setVm vm₁, locs, cells, slots⟩ argsL.toArray) :
    ∃ (v : Option Value) (vm₁ : Vm) (B : Pt), s.WarmedH vm₁ ∧ Stand p l e R s m args below meth c B.U B.locs B.cells B.slots ∧ Post ⟨T.setVm vm₁, locs, cells, slots⟩ argsL.toArray v B ∧
      ∀ target, Steps p.tables e below (B.U.setTop { g with pc := g.pc + 3, stack := v.toList ++ rest }) target → Steps p.tables e below (T.setTop g) target := by
  obtain ⟨mk, methM, cM, hnamed, hmethM, -, -, -, -, -, -, hsigM⟩ := Cond.codeWith_spec hcode
  have hstatic : methM.isStatic = true := Cond.static_spec hnamed hmethM hstat
  obtain ⟨kP, hkP, -⟩ := className_of_methodNamed hnamed
  have hinitP : kP.init = .initialized := Cond.initialized_spec (findClass_of_methodNamed hnamed) hkP hinit
  obtain ⟨vm₁, X₁, hstep₁⟩ := X.invokestatic hexec hown hlink hnamed hmethM hstatic hkP hinitP hy (g := g) hg (argsL := argsL) (rest := rest) (hlen _ hsigM) hstack hdg
  obtain ⟨v, B, X', hpost, hsteps⟩ := hK m meth c ⟨T.setVm vm₁, locs, cells, slots⟩ { g with stack := rest } (.invokestatic index) mk argsL.toArray X₁ hg hsize hdg hW (X₁.named hnamed) (hpre vm₁ X₁.warmed)
  exact ⟨v, vm₁, B, X₁.warmed, X', hpost, fun target h => hstep₁ _ fun acts => by rw [doInvoke_state]; exact hsteps.trans h⟩
theorem vx_runSW {y : MethodName} {bytes cc : ByteArray} {maxL nL mc ms n index : Nat} {ret : Option FieldType} {hh : List (Nat × Nat × Nat × Nat)} {ws : List Cond} {rm : Room} {Pc : Array Value → State → Prop} {Qc : Array Value → State → Outcome → State → Prop} {free : Addr → Prop} {Ts : List Cond} {own : String} {As rest : List Value} {g : JFrame}
    (S : CallFix p m c cc nL s args Ts own) (hM : Met l y ws rm Pc Qc mc ms free) (cw : vx_CSW R s args own index y bytes maxL ret hh ws rm mc ms n) (hp : PreS s H Pc As)
    (hg : g.method = m) (hn : As.length = n) (hsize : g.locals.size = nL) (hstack : g.stack = As.reverse ++ rest) (hW : 2 * g.monitorRoom + (rest.map fun v => v.category).sum ≤ 8) (hdg : decode cc g.pc = .ok (.invokestatic index, 3)) (hf : cells + mc ≤ R.cells ∧ slots + ms ≤ R.slots) :
    va_Run p l e R s m args below meth c H locs cells slots mc ms g rest (Qc As.toArray) (free) := by
  obtain ⟨⟨hrc, hrs, hfr, hlo, hws, hcw⟩, hcode, hini, hy, hlen, hl, hstt⟩ := cw
  have hK : Back l R p e below s args y 3 8 (PreOf R mc ms Pc) (PostOf Qc mc ms free) := va_backW (hh := hh) (bytes := bytes) (maxL := maxL) (ret := ret) hM hp.1 hrc hrs hfr hlo hws hcw (fun a' U hW => word_at hW (Or.inl (by first | rfl | simp [Cond.onTables, Cond.keeps, Cond.steady])) hini)
  obtain ⟨hx, hb, hml, ho, -⟩ := S
  intro T hT X
  obtain ⟨v, vm₁, ⟨U', l2, c2, s2⟩, hW₁, X', ⟨g', mk, t, L, e1, e2, hq, h1, hL, h2, h3⟩, st⟩ := vx_callSW X hx (hh := hh) (bytes := bytes) (maxL := maxL) (ret := ret) ho hl hstt hini hcode hy hK hg (hsize.trans hml.symm) (argsL := As) (rest := rest) (fun sig h => hn.trans (hlen sig h)) hstack hW (by rw [hb]; exact hdg)
    (fun vm₁ hW₁ => ⟨hf.1, hf.2, hp.2 (T.setVm vm₁) hT hW₁⟩)
  dsimp only [Pt.U, Pt.locs, Pt.cells, Pt.slots] at X' e1 e2 h1 h2 h3 st
  subst h1; subst h2; subst h3
  exact ⟨v, (T.setVm vm₁).calling g' mk As.toArray, t, U', L, hT, X', hL, e1, e2, hq, st⟩
/-- not caught here, past rows that name other classes: it goes on to the caller -/
theorem vx_outP {p : Program} {l : Launch} {e : Env} {R : Room} {s : State} {m : MethodId} {args : Array Value} {below : List Frame} {meth : Method} {c : Code} {H : Heap} {locs : List Loc} {cells slots : Nat} {free : Addr → Prop} {ls : Array Slot} {rest : List Value} {Qc : Array Value → State → Outcome → State → Prop} {XC : String → State → State → Prop}
    {pc : Nat} {own E : String} {ce : Cell} {q : Addr} {mc ms : Nat} (hown : s.vm.findClass own = some m.cls) (hlocks : meth.locks = false)
    (hpass : ∀ z ∈ c.exceptionTable.toList, covers z pc = false ∨ (z.catchType ≠ 0 ∧ ∃ nm : String, (Cond.classLink own z.catchType nm).before args s = true ∧ va_Nc E nm s)) (hcell : H[q]? = some ce) (hv : ce.vm = .none) (hcl : s.vm.findClass E = some ce.cls)
    (hx : ∀ t : State, t.heap = H → s.vm.Alike t.vm → XC E s t) (hf : ∀ z ∈ locs, free z.base) (hc : cells ≤ mc) (hs : slots ≤ ms) :
    vx_W p l e R s m args below meth c H locs cells slots (vx_MQ below Qc XC args s mc ms free) (F0 m pc ls rest) q := by
  intro T hT X
  have hpl : e.platform.magicAccessors = ({} : Platform).magicAccessors := by rw [X.admits.platform]
  obtain ⟨vm', hW', X', st⟩ := X.outThrough hlocks q (g := F0 m pc ls rest) rfl rfl rfl (cell := ce) (by rw [hT]; exact hcell) (by rw [hv]; rfl)
    (by obtain ⟨k9, h9, -⟩ := Vm.findClass_spec hcl; exact ⟨k9, h9⟩) (fun z hz => by
      rcases hpass z hz with h | ⟨hz0, nm, hl1, hn1⟩
      · exact Or.inl h
      · obtain ⟨c6, hc6, hcl6⟩ := Cond.classLink_spec hown hl1 e.platform hpl
        obtain ⟨a8, b8, h1, h2, h3⟩ := hn1
        cases Option.some.inj (h1.symm.trans hcl)
        cases Option.some.inj (h2.symm.trans hc6)
        exact Or.inr ⟨hz0, _, hcl6, h3⟩)
  obtain ⟨g₀, hfr⟩ := X'.frames_eq
  have hcell9 : ((T.setVm vm').setFrames (.throwing q :: below)).heap[q]? = some ce := by
    show T.heap[q]? = some ce
    rw [hT]; exact hcell
  have hend : Ended ((T.setVm vm').setFrames (.throwing q :: below)) below (.threw q) := State.frames_setFrames _ (State.cur_lt_of_frames hfr)
  refine ⟨(T.setVm vm').setFrames (.throwing q :: below), ?_, .threw q, X'.here.running, hend, Or.inr ⟨q, rfl, E, ce, locs, hx _ hT (X'.ends _).1.alike, hcell9, hv, hcl, (X'.ends _).1, (X'.ends _).2.mono hc hs, hf⟩⟩
  rw [X.pushThrowing_eq]
  exact st
/-- a thing of a world lies in the heap -/
theorem vx_lt {D : va_G} {cl : List vw_C} {ws : va_W} {H1 : Heap} (h : va_P D cl ws H1) {k : Nat} {q : Nat × va_E} (hk : ws[k]? = some q) : q.1 < H1.size := (h k q hk).lt
end VXS
/-! ===== END ===== -/
/-! ===== BEGIN methods with a table of their own: called by a name, returning or throwing ===== -/
section VXH
/-! vx_backW, vx_callVX, vx_callSX, vx_callVW, vx_runVW, vx_runVX, vx_runSX, vx_ofWH follow the same proofs as their sisters above (Free/Laws.lean, Shelf42/LK1.lean); vx_outP calls Shelf42/NT130.lean (outThrough). -/
section
variable {l : Launch} {R : Room} {p : Program} {e : Env} {below : List Frame} {s : State} {sargs : Array Value} {y : MethodName} {len W9 : Nat}
theorem vx_backW {ws : List Cond} {rm : Room} {Pc : Array Value → State → Prop} {Qc : Array Value → State → Outcome → State → Prop} {XC : String → State → State → Prop} {mc ms : Nat} {free : Addr → Prop} {bytes : ByteArray} {maxL : Nat} {ret : Option FieldType} {hh : List (Nat × Nat × Nat × Nat)}
    (hM : vx_Met l y ws rm Pc Qc XC mc ms free) (hblind : FrameBlind Pc) (hrc : rm.cells = mc) (hrs : rm.slots = ms)
    (hframes : rm.frames + 1 ≤ R.frames) (hlocals : W9 + (maxL + 11) + rm.locals ≤ R.locals)
    (hws : ∀ w ∈ ws, ∀ a' U, s.WarmedH U.vm → w.before a' U = true) (hcode : Cond.codeWith y bytes maxL ret hh ∈ ws) (hinit : ∀ a' U, s.WarmedH U.vm → (Cond.initialized y.cls).before a' U = true) :
    vx_Back l R p e below s sargs y len W9 (PreOf R mc ms Pc) (PostOf Qc mc ms free) (vx_Post XC mc ms free) := by
  intro m meth c A g ig mk a X hg hsize hdg hW hn hp
  have h1 : (headSpec ws rm).pre.before a A.U = true := atoms_intro fun w hw => hws w hw _ _ X.warmed
  have h2 : (Cond.codeWith y bytes maxL ret hh).before a A.U = true := hws _ hcode _ _ X.warmed
  have h3 : (Cond.initialized y.cls).before a A.U = true := hinit _ _ X.warmed
  have h4 : A.cells + (headSpec ws rm).room.cells ≤ R.cells := by rw [show (headSpec ws rm).room.cells = mc from hrc]; exact hp.1
  have h5 : A.slots + (headSpec ws rm).room.slots ≤ R.slots := by rw [show (headSpec ws rm).room.slots = ms from hrs]; exact hp.2.1
  have hPc : Pc a (A.U.calling g mk a) := hblind _ _ _ _ hp.2.2
  obtain ⟨U, Ls, c0, s0⟩ := A
  dsimp only [Pt.U, Pt.locs, Pt.cells, Pt.slots] at h1 h2 h3 h4 h5 X hn hPc ⊢
  obtain ⟨m9, methY, cY, hn9, hmY, hcY, -, hlY, -⟩ := Cond.codeWith_spec h2
  cases Option.some.inj (hn9.symm.trans hn)
  obtain ⟨kY, hkY, -⟩ := className_of_methodNamed hn
  have hinitY : kY.init = .initialized := Cond.initialized_spec (findClass_of_methodNamed hn) hkY h3
  have h : At U g.method c below := by rw [hg]; exact X.here
  have hlocals9 : W9 + (maxL + 11) + (headSpec ws rm).room.locals ≤ R.locals := hlocals
  have happ : (headSpec ws rm).appliesLoose y e.platform (U.calling g mk a) = true :=
    Spec.appliesLoose_calling (g := g) h hdg hn hkY hinitY
      (X.room_calling (g := g) (R' := (headSpec ws rm).room) hsize hmY hcY hframes (by rw [hlY]; omega) h4 h5) h1
  obtain ⟨mid, hmid⟩ := h.above
  have hfr : (U.setTop g).frames = (.java g :: mid) ++ below := by rw [State.frames_setTop' g h.top, hmid]; rfl
  obtain ⟨o, s₂, hsteps, -, hend, hq⟩ := Steps.callFree hM p X.admits X.cas X.clock (acts := []) hfr happ hPc trivial
  have hq' : vx_Q Qc XC mc ms free a (U.calling g mk a) o s₂ := hq
  rw [State.frames_setTop' g h.top] at hend
  obtain ⟨g₀, hg0⟩ := Option.isSome_iff_exists.mp h.top
  obtain ⟨r, hr⟩ := State.topJava?_eq_some.mp hg0
  have hr' : (({ U with heap := s₂.heap, slotsUsed := s₂.slotsUsed } : State).setVm s₂.vm).frames = .java g₀ :: r := hr
  rcases hq' with ⟨hqc, L, hfe, hL⟩ | ⟨q, rfl, E, ce, L, hx, hce, hcv, hcl, hW₂, hsm, hL⟩
  · obtain ⟨⟨v, rfl⟩, hW₂, e2, q2, q3, q4, q5, q6⟩ := id hfe
    have e3 : s₂ = ({ (U.calling g mk a).setFrames s₂.frames with heap := s₂.heap, slotsUsed := s₂.slotsUsed } : State).setVm s₂.vm := by
      have : s₂ = ({ s₂ with vm := (U.calling g mk a).vm } : State).setVm s₂.vm := rfl
      rw [e2] at this
      exact this
    obtain ⟨c₂, i₂, len₂, hc₂, hd₂, hf₂⟩ := hend
    have hW' : U.WarmedH s₂.vm := hW₂
    have hcc : c₂ = c := by
      have h1 : s₂.code? g.method = U.code? g.method := by
        rw [State.code?_eq, State.code?_eq, hW'.alike.method?]
      exact Option.some.inj (hc₂.symm.trans (h1.trans h.code))
    subst hcc
    have hlen : len₂ = len := by rw [hdg] at hd₂; cases hd₂; rfl
    subst hlen
    have hs₂ : s₂ = (({ U with heap := s₂.heap, slotsUsed := s₂.slotsUsed } : State).setVm s₂.vm).setTop { g with pc := g.pc + len₂, stack := v.toList ++ g.stack } := by
      refine e3.trans ?_
      rw [hf₂, State.calling_eq h.top, State.setFrames_setFrames, State.setTop_of_frames _ hr', hr]
      rfl
    have hsame : U.sameButNew ({ U with heap := s₂.heap, slotsUsed := s₂.slotsUsed } : State) L mc ms := by
      refine ⟨?_, q2, q3, q4, q5, q6⟩
      obtain ⟨t, ht, -⟩ := State.frames_cons hr
      show ({ U with heap := s₂.heap, slotsUsed := s₂.slotsUsed } : State) = { U.setFrames U.frames with heap := s₂.heap, slotsUsed := s₂.slotsUsed }
      rw [State.setFrames_self ht]
    subst hg
    refine Or.inl ⟨v, ⟨(({ U with heap := s₂.heap, slotsUsed := s₂.slotsUsed } : State).setVm s₂.vm), Ls ++ L, c0 + mc, s0 + ms⟩,
      ⟨X.admits, X.cas, X.clock, X.frames, X.room, X.hears, X.method, X.code, (X.here.setHeapUsed s₂.heap s₂.slotsUsed).setVm hW'.alike, X.tail, State.WarmedH.trans X.warmed hW', X.limits, X.bytes, X.same.trans (hsame.setVm s.vm)⟩,
      ⟨g, mk, s₂, L, rfl, rfl, hqc, rfl, hL, rfl, rfl⟩, ?_⟩
    show Steps p.tables e below _ ((({ U with heap := s₂.heap, slotsUsed := s₂.slotsUsed } : State).setVm s₂.vm).setTop { g with pc := g.pc + len₂, stack := v.toList ++ g.stack })
    rw [← hs₂]
    exact hsteps
  · obtain ⟨e2, q2, q3, q4, q5, q6⟩ := id hsm
    have e3 : s₂ = ({ (U.calling g mk a).setFrames s₂.frames with heap := s₂.heap, slotsUsed := s₂.slotsUsed } : State).setVm s₂.vm := by
      have : s₂ = ({ s₂ with vm := (U.calling g mk a).vm } : State).setVm s₂.vm := rfl
      rw [e2] at this
      exact this
    have hf₂ : s₂.frames = .throwing q :: .java g :: U.frames.tail := hend
    have hW' : U.WarmedH s₂.vm := hW₂
    have hs₂ : s₂ = ((({ U with heap := s₂.heap, slotsUsed := s₂.slotsUsed } : State).setVm s₂.vm).setTop g).pushFrame (.throwing q) := by
      refine e3.trans ?_
      rw [hf₂, State.calling_eq h.top, State.setFrames_setFrames, State.pushFrame, State.frames_setTop _ hr', State.setTop_of_frames _ hr', State.setFrames_setFrames, hr]
      rfl
    have hsame : U.sameButNew ({ U with heap := s₂.heap, slotsUsed := s₂.slotsUsed } : State) L mc ms := by
      refine ⟨?_, q2, q3, q4, q5, q6⟩
      obtain ⟨t, ht, -⟩ := State.frames_cons hr
      show ({ U with heap := s₂.heap, slotsUsed := s₂.slotsUsed } : State) = { U.setFrames U.frames with heap := s₂.heap, slotsUsed := s₂.slotsUsed }
      rw [State.setFrames_self ht]
    subst hg
    refine Or.inr ⟨q, ⟨(({ U with heap := s₂.heap, slotsUsed := s₂.slotsUsed } : State).setVm s₂.vm), Ls ++ L, c0 + mc, s0 + ms⟩,
      ⟨X.admits, X.cas, X.clock, X.frames, X.room, X.hears, X.method, X.code, (X.here.setHeapUsed s₂.heap s₂.slotsUsed).setVm hW'.alike, X.tail, State.WarmedH.trans X.warmed hW', X.limits, X.bytes, X.same.trans (hsame.setVm s.vm)⟩,
      ⟨g, mk, s₂, L, E, ce, rfl, rfl, hx, hce, hcv, hcl, rfl, hL, rfl, rfl⟩, ?_⟩
    show Steps p.tables e below _ (((({ U with heap := s₂.heap, slotsUsed := s₂.slotsUsed } : State).setVm s₂.vm).setTop g).pushFrame (.throwing q))
    rw [← hs₂]
    exact hsteps
end
variable {p : Program} {l : Launch} {e : Env} {R : Room} {s : State} {m : MethodId} {args : Array Value} {below : List Frame} {meth : Method} {c : Code} {T : State} {H : Heap} {locs : List Loc} {cells slots : Nat}
theorem vx_callVX (X : Stand p l e R s m args below meth c T locs cells slots) (hexec : p.tables.exec = Jvm.exec) {own C : String} {index : Nat} {y : MethodName} {bytes : ByteArray} {maxL : Nat} {ret : Option FieldType} {hh : List (Nat × Nat × Nat × Nat)}
    (hown : s.vm.findClass own = some m.cls) (hlink : (Cond.methodLink own index y).before args s = true) (hinst : (Cond.instanceMethod y).before args s = true) (hsel : (Cond.selects C y y).before args s = true)
    (hcode : (Cond.codeWith y bytes maxL ret hh).before args s = true) (hy : y.cls ≠ "java/lang/invoke/MethodHandle" ∧ y.cls ≠ "java/lang/invoke/VarHandle")
    {W9 : Nat} {Pre : Pt → Array Value → Prop} {Post : Pt → Array Value → Option Value → Pt → Prop} {PostX : Pt → Array Value → Addr → Pt → Prop} (hK : vx_Back l R p e below s args y 3 W9 Pre Post PostX)
    {b : Addr} {cellB : Cell} (hcell : T.heap[b]? = some cellB) (hobj : cellB.vm.isStatics = false) (hcls : s.vm.findClass C = some cellB.cls)
    {g : JFrame} (hg : g.method = m) (hsize : g.locals.size = c.maxLocals) {argsL rest : List Value} (hlen : ∀ sig, parseMethodDescriptor y.desc = some sig → argsL.length = sig.parameters.length)
    (hstack : g.stack = argsL.reverse ++ .ref b :: rest) (hW : 2 * g.monitorRoom + (rest.map fun v => v.category).sum ≤ W9) (hdg : decode c.code g.pc = .ok (.invokevirtual index, 3))
    (hpre : ∀ vm₁, s.WarmedH vm₁ → Pre ⟨T.setVm vm₁, locs, cells, slots⟩ (Value.ref b :: argsL).toArray) :
    (∃ (v : Option Value) (vm₁ : Vm) (B : Pt), s.WarmedH vm₁ ∧ Stand p l e R s m args below meth c B.U B.locs B.cells B.slots ∧ Post ⟨T.setVm vm₁, locs, cells, slots⟩ (Value.ref b :: argsL).toArray v B ∧
      ∀ target, Steps p.tables e below (B.U.setTop { g with pc := g.pc + 3, stack := v.toList ++ rest }) target → Steps p.tables e below (T.setTop g) target) ∨
    (∃ (q : Addr) (vm₁ : Vm) (B : Pt), s.WarmedH vm₁ ∧ Stand p l e R s m args below meth c B.U B.locs B.cells B.slots ∧ PostX ⟨T.setVm vm₁, locs, cells, slots⟩ (Value.ref b :: argsL).toArray q B ∧
      Steps p.tables e below (T.setTop g) ((B.U.setTop { g with stack := rest }).pushFrame (.throwing q))) := by
  obtain ⟨mk, methM, hnamed, hmethM, hstM, habM⟩ := Cond.instanceMethod_spec hinst
  obtain ⟨m8, methM', cM, hn8, hmethM', -, -, -, -, -, -, hsigM⟩ := Cond.codeWith_spec hcode
  cases Option.some.inj (hn8.symm.trans hnamed)
  cases hmethM.symm.trans hmethM'
  obtain ⟨c2, r2, m2, q1, q2, q3, q4, kP, hkP, hkPi⟩ := Cond.selects_spec hsel
  cases hcls.symm.trans q1
  cases (State.methodFound?_of_named hnamed hy).symm.trans q2
  cases hnamed.symm.trans q3
  have hselP : selectMethod e.platform s.vm cellB.cls mk = .method mk := by rw [Launch.admits_selectMethod X.admits]; exact q4
  obtain ⟨vm₁, X₁, hstep₁⟩ := X.invokevirtual hexec hown hlink hnamed hmethM hstM hkP hkPi hy (a := b) (cell := cellB) hcell
    (fun z h => by rw [h] at hobj; cases hobj) hselP hmethM habM hkP hkPi (g := g) hg (argsL := argsL) (rest := rest) (hlen _ hsigM) hstack hdg
  rcases hK m meth c ⟨T.setVm vm₁, locs, cells, slots⟩ { g with stack := rest } (.invokevirtual index) mk (Value.ref b :: argsL).toArray X₁ hg hsize hdg hW (X₁.named hnamed) (hpre vm₁ X₁.warmed) with ⟨v, B, X', hpost, hsteps⟩ | ⟨q, B, X', hpost, hsteps⟩
  · exact Or.inl ⟨v, vm₁, B, X₁.warmed, X', hpost, fun target h => hstep₁ _ fun acts => by rw [doInvoke_state]; exact hsteps.trans h⟩
  · exact Or.inr ⟨q, vm₁, B, X₁.warmed, X', hpost, hstep₁ _ fun acts => by rw [doInvoke_state]; exact hsteps⟩
theorem vx_callSX (X : Stand p l e R s m args below meth c T locs cells slots) (hexec : p.tables.exec = Jvm.exec) {own : String} {index : Nat} {y : MethodName} {bytes : ByteArray} {maxL : Nat} {ret : Option FieldType} {hh : List (Nat × Nat × Nat × Nat)}
    (hown : s.vm.findClass own = some m.cls) (hlink : (Cond.methodLink own index y).before args s = true) (hstat : (Cond.static y).before args s = true) (hinit : (Cond.initialized y.cls).before args s = true)
    (hcode : (Cond.codeWith y bytes maxL ret hh).before args s = true) (hy : y.cls ≠ "java/lang/invoke/MethodHandle" ∧ y.cls ≠ "java/lang/invoke/VarHandle")
    {W9 : Nat} {Pre : Pt → Array Value → Prop} {Post : Pt → Array Value → Option Value → Pt → Prop} {PostX : Pt → Array Value → Addr → Pt → Prop} (hK : vx_Back l R p e below s args y 3 W9 Pre Post PostX)
    {g : JFrame} (hg : g.method = m) (hsize : g.locals.size = c.maxLocals) {argsL rest : List Value} (hlen : ∀ sig, parseMethodDescriptor y.desc = some sig → argsL.length = sig.parameters.length)
    (hstack : g.stack = argsL.reverse ++ rest) (hW : 2 * g.monitorRoom + (rest.map fun v => v.category).sum ≤ W9) (hdg : decode c.code g.pc = .ok (.invokestatic index, 3))
    (hpre : ∀ vm₁, s.WarmedH vm₁ → Pre ⟨T.setVm vm₁, locs, cells, slots⟩ argsL.toArray) :
    (∃ (v : Option Value) (vm₁ : Vm) (B : Pt), s.WarmedH vm₁ ∧ Stand p l e R s m args below meth c B.U B.locs B.cells B.slots ∧ Post ⟨T.setVm vm₁, locs, cells, slots⟩ argsL.toArray v B ∧
      ∀ target, Steps p.tables e below (B.U.setTop { g with pc := g.pc + 3, stack := v.toList ++ rest }) target → Steps p.tables e below (T.setTop g) target) ∨
    (∃ (q : Addr) (vm₁ : Vm) (B : Pt), s.WarmedH vm₁ ∧ Stand p l e R s m args below meth c B.U B.locs B.cells B.slots ∧ PostX ⟨T.setVm vm₁, locs, cells, slots⟩ argsL.toArray q B ∧
      Steps p.tables e below (T.setTop g) ((B.U.setTop { g with stack := rest }).pushFrame (.throwing q))) := by
  obtain ⟨mk, methM, cM, hnamed, hmethM, -, -, -, -, -, -, hsigM⟩ := Cond.codeWith_spec hcode
  have hstatic : methM.isStatic = true := Cond.static_spec hnamed hmethM hstat
  obtain ⟨kP, hkP, -⟩ := className_of_methodNamed hnamed
  have hinitP : kP.init = .initialized := Cond.initialized_spec (findClass_of_methodNamed hnamed) hkP hinit
  obtain ⟨vm₁, X₁, hstep₁⟩ := X.invokestatic hexec hown hlink hnamed hmethM hstatic hkP hinitP hy (g := g) hg (argsL := argsL) (rest := rest) (hlen _ hsigM) hstack hdg
  rcases hK m meth c ⟨T.setVm vm₁, locs, cells, slots⟩ { g with stack := rest } (.invokestatic index) mk argsL.toArray X₁ hg hsize hdg hW (X₁.named hnamed) (hpre vm₁ X₁.warmed) with ⟨v, B, X', hpost, hsteps⟩ | ⟨q, B, X', hpost, hsteps⟩
  · exact Or.inl ⟨v, vm₁, B, X₁.warmed, X', hpost, fun target h => hstep₁ _ fun acts => by rw [doInvoke_state]; exact hsteps.trans h⟩
  · exact Or.inr ⟨q, vm₁, B, X₁.warmed, X', hpost, hstep₁ _ fun acts => by rw [doInvoke_state]; exact hsteps⟩
theorem vx_callVW (X : Stand p l e R s m args below meth c T locs cells slots) (hexec : p.tables.exec = Jvm.exec) {own C : String} {index : Nat} {y : MethodName} {bytes : ByteArray} {maxL : Nat} {ret : Option FieldType} {hh : List (Nat × Nat × Nat × Nat)}
    (hown : s.vm.findClass own = some m.cls) (hlink : (Cond.methodLink own index y).before args s = true) (hinst : (Cond.instanceMethod y).before args s = true) (hsel : (Cond.selects C y y).before args s = true)
    (hcode : (Cond.codeWith y bytes maxL ret hh).before args s = true) (hy : y.cls ≠ "java/lang/invoke/MethodHandle" ∧ y.cls ≠ "java/lang/invoke/VarHandle")
    {W9 : Nat} {Pre : Pt → Array Value → Prop} {Post : Pt → Array Value → Option Value → Pt → Prop} (hK : Back l R p e below s args y 3 W9 Pre Post)
    {b : Addr} {cellB : Cell} (hcell : T.heap[b]? = some cellB) (hobj : cellB.vm.isStatics = false) (hcls : s.vm.findClass C = some cellB.cls)
    {g : JFrame} (hg : g.method = m) (hsize : g.locals.size = c.maxLocals) {argsL rest : List Value} (hlen : ∀ sig, parseMethodDescriptor y.desc = some sig → argsL.length = sig.parameters.length)
    (hstack : g.stack = argsL.reverse ++ .ref b :: rest) (hW : 2 * g.monitorRoom + (rest.map fun v => v.category).sum ≤ W9) (hdg : decode c.code g.pc = .ok (.invokevirtual index, 3))
    (hpre : ∀ vm₁, s.WarmedH vm₁ → Pre ⟨T.setVm vm₁, locs, cells, slots⟩ (Value.ref b :: argsL).toArray) :
    ∃ (v : Option Value) (vm₁ : Vm) (B : Pt), s.WarmedH vm₁ ∧ Stand p l e R s m args below meth c B.U B.locs B.cells B.slots ∧ Post ⟨T.setVm vm₁, locs, cells, slots⟩ (Value.ref b :: argsL).toArray v B ∧
      ∀ target, Steps p.tables e below (B.U.setTop { g with pc := g.pc + 3, stack := v.toList ++ rest }) target → Steps p.tables e below (T.setTop g) target := by
  obtain ⟨mk, methM, hnamed, hmethM, hstM, habM⟩ := Cond.instanceMethod_spec hinst
  obtain ⟨m8, methM', cM, hn8, hmethM', -, -, -, -, -, -, hsigM⟩ := Cond.codeWith_spec hcode
  cases Option.some.inj (hn8.symm.trans hnamed)
  cases hmethM.symm.trans hmethM'
  obtain ⟨c2, r2, m2, q1, q2, q3, q4, kP, hkP, hkPi⟩ := Cond.selects_spec hsel
  cases hcls.symm.trans q1
  cases (State.methodFound?_of_named hnamed hy).symm.trans q2
  cases hnamed.symm.trans q3
  have hselP : selectMethod e.platform s.vm cellB.cls mk = .method mk := by rw [Launch.admits_selectMethod X.admits]; exact q4
  obtain ⟨vm₁, X₁, hstep₁⟩ := X.invokevirtual hexec hown hlink hnamed hmethM hstM hkP hkPi hy (a := b) (cell := cellB) hcell
    (fun z h => by rw [h] at hobj; cases hobj) hselP hmethM habM hkP hkPi (g := g) hg (argsL := argsL) (rest := rest) (hlen _ hsigM) hstack hdg
  obtain ⟨v, B, X', hpost, hsteps⟩ := hK m meth c ⟨T.setVm vm₁, locs, cells, slots⟩ { g with stack := rest } (.invokevirtual index) mk (Value.ref b :: argsL).toArray X₁ hg hsize hdg hW (X₁.named hnamed) (hpre vm₁ X₁.warmed)
  exact ⟨v, vm₁, B, X₁.warmed, X', hpost, fun target h => hstep₁ _ fun acts => by rw [doInvoke_state]; exact hsteps.trans h⟩
abbrev vx_CVW (R : Room) (s : State) (args : Array Value) (own C : String) (index : Nat) (y : MethodName) (bytes : ByteArray) (maxL : Nat) (ret : Option FieldType) (hh : List (Nat × Nat × Nat × Nat)) (ws : List Cond) (rm : Room) (mc ms n : Nat) : Prop :=
  (rm.cells = mc ∧ rm.slots = ms ∧ rm.frames + 1 ≤ R.frames ∧ 8 + (maxL + 11) + rm.locals ≤ R.locals ∧ (∀ w ∈ ws, ∀ (a' : Array Value) (U : State), s.WarmedH U.vm → w.before a' U = true) ∧ Cond.codeWith y bytes maxL ret hh ∈ ws) ∧
  (Cond.codeWith y bytes maxL ret hh).before args s = true ∧ (Cond.initialized y.cls).before args s = true ∧ (y.cls ≠ "java/lang/invoke/MethodHandle" ∧ y.cls ≠ "java/lang/invoke/VarHandle") ∧
  (∀ sig, parseMethodDescriptor y.desc = some sig → n = sig.parameters.length) ∧ (Cond.methodLink own index y).before args s = true ∧ (Cond.instanceMethod y).before args s = true ∧ (Cond.selects C y y).before args s = true
theorem vx_cwVW {own C : String} {index maxL mc ms : Nat} {y : MethodName} {bytes : ByteArray} {ret : Option FieldType} {hh : List (Nat × Nat × Nat × Nat)} {Ts ws ws' : List Cond} {rm : Room} (n : Nat) (ht : ∀ w ∈ Ts, w.before args s = true) (hT : GoodIn Ts (wsV own index C y ws)) (hw : ws = Cond.codeWith y bytes maxL ret hh :: ws') (hrc : rm.cells = mc) (hrs : rm.slots = ms)
    (hd : y.cls = C ∧ y.cls ≠ "java/lang/invoke/MethodHandle" ∧ y.cls ≠ "java/lang/invoke/VarHandle" ∧ (parseMethodDescriptor y.desc).map (fun d => d.parameters.length) = some n) (hR : rm.frames + 1 ≤ R.frames ∧ 8 + (maxL + 11) + rm.locals ≤ R.locals) :
    vx_CVW R s args own C index y bytes maxL ret hh ws rm mc ms n := by
  obtain ⟨hC, hd⟩ := hd
  subst hC
  have ok : ∀ w ∈ wsV own index y.cls y ws, w.before args s = true := fun w h => ht w (hT w h).1
  have hG : GoodIn Ts ws := fun w h => hT w (by unfold wsV; exact List.mem_append_right _ h)
  have hc : Cond.codeWith y bytes maxL ret hh ∈ ws := by rw [hw]; exact List.mem_cons_self
  refine ⟨⟨hrc, hrs, hR.1, hR.2, pay_in ht hG, hc⟩, ht _ (hG _ hc).1, ok _ (by simp [wsV]), ⟨hd.1, hd.2.1⟩, fun sig h => ?_, ok _ (by simp [wsV]), ok _ (by simp [wsV]), ok _ (by simp [wsV])⟩
  have h2 := hd.2.2
  rw [h] at h2
  exact (Option.some.inj h2).symm
theorem vx_runVW {y : MethodName} {bytes cc : ByteArray} {maxL nL mc ms n index : Nat} {ret : Option FieldType} {hh : List (Nat × Nat × Nat × Nat)} {ws : List Cond} {rm : Room} {Pc : Array Value → State → Prop} {Qc : Array Value → State → Outcome → State → Prop} {free : Addr → Prop} {Ts : List Cond} {own C : String} {b : Addr} {As rest : List Value} {g : JFrame}
    (S : CallFix p m c cc nL s args Ts own) (hM : Met l y ws rm Pc Qc mc ms free) (cw : vx_CVW R s args own C index y bytes maxL ret hh ws rm mc ms n) (hp : PreV s H C b Pc As)
    (hg : g.method = m) (hn : As.length = n) (hsize : g.locals.size = nL) (hstack : g.stack = As.reverse ++ .ref b :: rest) (hW : 2 * g.monitorRoom + (rest.map fun v => v.category).sum ≤ 8) (hdg : decode cc g.pc = .ok (.invokevirtual index, 3)) (hf : cells + mc ≤ R.cells ∧ slots + ms ≤ R.slots) :
    va_Run p l e R s m args below meth c H locs cells slots mc ms g rest (Qc (Value.ref b :: As).toArray) free := by
  obtain ⟨⟨hrc, hrs, hfr, hlo, hws, hcw⟩, hcode, hini, hy, hlen, hl, hin, hse⟩ := cw
  have hK : Back l R p e below s args y 3 8 (PreOf R mc ms Pc) (PostOf Qc mc ms free) := va_backW (hh := hh) (bytes := bytes) (maxL := maxL) (ret := ret) hM hp.1 hrc hrs hfr hlo hws hcw (fun a' U hW => word_at hW (Or.inl (by first | rfl | simp [Cond.onTables, Cond.keeps, Cond.steady])) hini)
  obtain ⟨hx, hb, hml, ho, -⟩ := S
  obtain ⟨-, ⟨cellB, hcB, hoB, hclB⟩, hPc⟩ := hp
  intro T hT X
  obtain ⟨v, vm₁, ⟨U', l2, c2, s2⟩, hW₁, X', ⟨g', mk, t, L, e1, e2, hq, h1, hL, h2, h3⟩, st⟩ := vx_callVW X hx (C := C) (hh := hh) (bytes := bytes) (maxL := maxL) (ret := ret) ho hl hin hse hcode hy hK (by rw [hT]; exact hcB) hoB hclB hg (hsize.trans hml.symm) (argsL := As) (rest := rest) (fun sig h => hn.trans (hlen sig h)) hstack hW (by rw [hb]; exact hdg)
    (fun vm₁ hW₁ => ⟨hf.1, hf.2, hPc (T.setVm vm₁) hT hW₁⟩)
  dsimp only [Pt.U, Pt.locs, Pt.cells, Pt.slots] at X' e1 e2 h1 h2 h3 st
  subst h1; subst h2; subst h3
  exact ⟨v, (T.setVm vm₁).calling g' mk (Value.ref b :: As).toArray, t, U', L, hT, X', hL, e1, e2, hq, st⟩
section
variable {y : MethodName} {bytes cc : ByteArray} {maxL nL mc ms n index : Nat} {ret : Option FieldType} {ws : List Cond} {rm : Room} {Pc : Array Value → State → Prop} {Qc : Array Value → State → Outcome → State → Prop} {XC : String → State → State → Prop} {free : Addr → Prop} {Ts : List Cond} {own C : String} {b : Addr} {As rest : List Value} {g : JFrame}
theorem vx_runVX {hh : List (Nat × Nat × Nat × Nat)} (S : CallFix p m c cc nL s args Ts own) (hM : vx_Met l y ws rm Pc Qc XC mc ms free) (cw : vx_CVW R s args own C index y bytes maxL ret hh ws rm mc ms n) (hp : PreV s H C b Pc As)
    (hg : g.method = m) (hn : As.length = n) (hsize : g.locals.size = nL) (hstack : g.stack = As.reverse ++ .ref b :: rest) (hW : 2 * g.monitorRoom + (rest.map fun v => v.category).sum ≤ 8) (hdg : decode cc g.pc = .ok (.invokevirtual index, 3)) (hf : cells + mc ≤ R.cells ∧ slots + ms ≤ R.slots) :
    vx_Run p l e R s m args below meth c H locs cells slots mc ms g rest (Qc (Value.ref b :: As).toArray) XC free := by
  obtain ⟨⟨hrc, hrs, hfr, hlo, hws, hcw⟩, hcode, hini, hy, hlen, hl, hin, hse⟩ := cw
  have hK : vx_Back l R p e below s args y 3 8 (PreOf R mc ms Pc) (PostOf Qc mc ms free) (vx_Post XC mc ms free) := vx_backW (hh := hh) (bytes := bytes) (maxL := maxL) (ret := ret) hM hp.1 hrc hrs hfr hlo hws hcw (fun a' U hW => word_at hW (Or.inl (by first | rfl | simp [Cond.onTables, Cond.keeps, Cond.steady])) hini)
  obtain ⟨hx, hb, hml, ho, -⟩ := S
  obtain ⟨-, ⟨cellB, hcB, hoB, hclB⟩, hPc⟩ := hp
  intro T hT X
  rcases vx_callVX X hx (C := C) (hh := hh) (bytes := bytes) (maxL := maxL) (ret := ret) ho hl hin hse hcode hy hK (by rw [hT]; exact hcB) hoB hclB hg (hsize.trans hml.symm) (argsL := As) (rest := rest) (fun sig h => hn.trans (hlen sig h)) hstack hW (by rw [hb]; exact hdg)
    (fun vm₁ hW₁ => ⟨hf.1, hf.2, hPc (T.setVm vm₁) hT hW₁⟩) with ⟨v, vm₁, ⟨U', l2, c2, s2⟩, hW₁, X', ⟨g', mk, t, L, e1, e2, hq, h1, hL, h2, h3⟩, st⟩ | ⟨q, vm₁, ⟨U', l2, c2, s2⟩, hW₁, X', ⟨g', mk, t, L, E, ce, e1, e2, hq, hce, hcv, hcl, h1, hL, h2, h3⟩, st⟩
  · dsimp only [Pt.U, Pt.locs, Pt.cells, Pt.slots] at X' e1 e2 h1 h2 h3 st
    subst h1; subst h2; subst h3
    exact Or.inl ⟨v, (T.setVm vm₁).calling g' mk (Value.ref b :: As).toArray, t, U', L, hT, X', hL, e1, e2, hq, st⟩
  · dsimp only [Pt.U, Pt.locs, Pt.cells, Pt.slots] at X' e1 e2 h1 h2 h3 st hcl
    subst h1; subst h2; subst h3
    exact Or.inr ⟨q, (T.setVm vm₁).calling g' mk (Value.ref b :: As).toArray, t, U', L, E, ce, hT, X', hL, e1, e2, hq, hce, hcv, vx_cls hW₁ hcl, st⟩
theorem vx_runSX {hh : List (Nat × Nat × Nat × Nat)} (S : CallFix p m c cc nL s args Ts own) (hM : vx_Met l y ws rm Pc Qc XC mc ms free) (cw : vx_CSW R s args own index y bytes maxL ret hh ws rm mc ms n) (hp : PreS s H Pc As)
    (hg : g.method = m) (hn : As.length = n) (hsize : g.locals.size = nL) (hstack : g.stack = As.reverse ++ rest) (hW : 2 * g.monitorRoom + (rest.map fun v => v.category).sum ≤ 8) (hdg : decode cc g.pc = .ok (.invokestatic index, 3)) (hf : cells + mc ≤ R.cells ∧ slots + ms ≤ R.slots) :
    vx_Run p l e R s m args below meth c H locs cells slots mc ms g rest (Qc As.toArray) XC free := by
  obtain ⟨⟨hrc, hrs, hfr, hlo, hws, hcw⟩, hcode, hini, hy, hlen, hl, hstt⟩ := cw
  have hK : vx_Back l R p e below s args y 3 8 (PreOf R mc ms Pc) (PostOf Qc mc ms free) (vx_Post XC mc ms free) := vx_backW (hh := hh) (bytes := bytes) (maxL := maxL) (ret := ret) hM hp.1 hrc hrs hfr hlo hws hcw (fun a' U hW => word_at hW (Or.inl (by first | rfl | simp [Cond.onTables, Cond.keeps, Cond.steady])) hini)
  obtain ⟨hx, hb, hml, ho, -⟩ := S
  intro T hT X
  rcases vx_callSX X hx (hh := hh) (bytes := bytes) (maxL := maxL) (ret := ret) ho hl hstt hini hcode hy hK hg (hsize.trans hml.symm) (argsL := As) (rest := rest) (fun sig h => hn.trans (hlen sig h)) hstack hW (by rw [hb]; exact hdg)
    (fun vm₁ hW₁ => ⟨hf.1, hf.2, hp.2 (T.setVm vm₁) hT hW₁⟩) with ⟨v, vm₁, ⟨U', l2, c2, s2⟩, hW₁, X', ⟨g', mk, t, L, e1, e2, hq, h1, hL, h2, h3⟩, st⟩ | ⟨q, vm₁, ⟨U', l2, c2, s2⟩, hW₁, X', ⟨g', mk, t, L, E, ce, e1, e2, hq, hce, hcv, hcl, h1, hL, h2, h3⟩, st⟩
  · dsimp only [Pt.U, Pt.locs, Pt.cells, Pt.slots] at X' e1 e2 h1 h2 h3 st
    subst h1; subst h2; subst h3
    exact Or.inl ⟨v, (T.setVm vm₁).calling g' mk As.toArray, t, U', L, hT, X', hL, e1, e2, hq, st⟩
  · dsimp only [Pt.U, Pt.locs, Pt.cells, Pt.slots] at X' e1 e2 h1 h2 h3 st hcl
    subst h1; subst h2; subst h3
    exact Or.inr ⟨q, (T.setVm vm₁).calling g' mk As.toArray, t, U', L, E, ce, hT, X', hL, e1, e2, hq, hce, hcv, vx_cls hW₁ hcl, st⟩
end
end VXH
theorem vx_ofWH {l : Launch} {y : MethodName} {ws ws' : List Cond} {rm : Room} {Pc : Array Value → State → Prop} {Qc : Array Value → State → Outcome → State → Prop} {XC : String → State → State → Prop} {mc ms : Nat} {free : Addr → Prop} {cc : ByteArray} {maxL : Nat} {ret : Option FieldType} {hh : List (Nat × Nat × Nat × Nat)}
    (hy : plainName y.cls = true) (hw : ws = Cond.codeWith y cc maxL ret hh :: ws')
    (body : ∀ p e s m args below meth c s₁, BodyLoose p l y (headSpec ws rm) cc maxL ret e s m args below meth c s₁ → c.maxLocals = maxL → Pc args s →
      W p l e (headSpec ws rm).room s m args below meth c s.heap [] 0 0 (vx_MQ below Qc XC args s mc ms free) (entryFrame m args maxL)) : vx_Met l y ws rm Pc Qc XC mc ms free := by
  refine MetFree.of_bodyS (code := cc) (maxLocals := maxL) (ret := ret) hy ?_ ?_
  · intro args s m h hn
    obtain ⟨m9, meth, c, hn9, h1, h2, h3, h4, -, h5, h6, -⟩ := Cond.codeWith_spec (atoms_spec (ws := ws) h _ (by rw [hw]; exact List.mem_cons_self))
    cases hn.symm.trans hn9
    exact ⟨meth, c, h1, h2, h3, h4, h5, h6⟩
  · intro p e s m args below meth c s₁ B hml hP _
    have hh0 : s₁.heap = s.heap := by rw [B.state]; rfl
    obtain ⟨t, a1, o, b1, b2, b3⟩ := body p e s m args below meth c s₁ B hml hP s₁ hh0 (Stand.of_body B)
    exact ⟨t, o, a1, b1, b2, b3⟩
/-! ===== END ===== -/
end
section
/-! ===== BEGIN printed: names, fields, word lists, decode rows ===== -/
def RX0 : String := "Ghostracer$Book"
def TX0 : u_T := fun k => match k with
  | 0 => ("Ghostracer$Book", "laps", "[LGhostracer$Lap;", true)
  | _ => ("Ghostracer$Book", "count", "I", false)
def tyX0 : Nat → FieldType := fun k => match k with
  | 0 => .array (.object "Ghostracer$Lap")
  | _ => .int
abbrev wsX00 : List Cond := u_ws RX0 TX0 2
theorem nmX0 : ∀ a, a < 2 → ∀ b, b < 2 → a ≠ b → (TX0 a).2.1 ≠ (TX0 b).2.1 := by decide +kernel
theorem tyX0_ok : ∀ k, k < 2 → parseFieldDescriptor (TX0 k).2.2.1 = some (tyX0 k) := by decide +kernel
abbrev cX0_init : ByteArray := prog_2_method_1_code
def yX0_init : MethodName := ⟨RX0, "<init>", "()V"⟩
abbrev cX0_has : ByteArray := prog_2_method_2_code
def yX0_has : MethodName := ⟨RX0, "has", "(I)Z"⟩
abbrev cX0_hasGhost : ByteArray := prog_2_method_3_code
def yX0_hasGhost : MethodName := ⟨RX0, "hasGhost", "(II)Z"⟩
abbrev cX0_add : ByteArray := prog_2_method_4_code
def yX0_add : MethodName := ⟨RX0, "add", "(LGhostracer$Lap;)V"⟩
abbrev cX0_store : ByteArray := prog_2_method_5_code
def yX0_store : MethodName := ⟨RX0, "store", "(LGhostracer$Lap;I)V"⟩
abbrev cX0_settleDepth : ByteArray := prog_2_method_6_code
def yX0_settleDepth : MethodName := ⟨RX0, "settleDepth", "(LGhostracer$Lap;)V"⟩
abbrev cX0_moveFrom : ByteArray := prog_2_method_7_code
def yX0_moveFrom : MethodName := ⟨RX0, "moveFrom", "(II)I"⟩
abbrev cX0_countResting : ByteArray := prog_2_method_8_code
def yX0_countResting : MethodName := ⟨RX0, "countResting", "(I)I"⟩
abbrev cX0_restsOn : ByteArray := prog_2_method_9_code
def yX0_restsOn : MethodName := ⟨RX0, "restsOn", "(II)Z"⟩
abbrev cX0_countStanding : ByteArray := prog_2_method_10_code
def yX0_countStanding : MethodName := ⟨RX0, "countStanding", "()I"⟩
abbrev cX0_leastOn : ByteArray := prog_2_method_11_code
def yX0_leastOn : MethodName := ⟨RX0, "leastOn", "(I)I"⟩
abbrev cX0_isAhead : ByteArray := prog_2_method_12_code
def yX0_isAhead : MethodName := ⟨RX0, "isAhead", "(II)Z"⟩
def RX1 : String := "Ghostracer$Car"
def TX1 : u_T := fun k => match k with
  | 0 => ("Ghostracer$Car", "top", "I", false)
  | 1 => ("Ghostracer$Car", "pull", "I", false)
  | _ => ("Ghostracer$Car", "grip", "I", false)
def tyX1 : Nat → FieldType := fun k => match k with
  | 0 => .int
  | 1 => .int
  | _ => .int
abbrev wsX10 : List Cond := u_ws RX1 TX1 3
theorem nmX1 : ∀ a, a < 3 → ∀ b, b < 3 → a ≠ b → (TX1 a).2.1 ≠ (TX1 b).2.1 := by decide +kernel
theorem tyX1_ok : ∀ k, k < 3 → parseFieldDescriptor (TX1 k).2.2.1 = some (tyX1 k) := by decide +kernel
abbrev cX1_init : ByteArray := prog_3_method_1_code
def yX1_init : MethodName := ⟨RX1, "<init>", "()V"⟩
abbrev cX1_speedAfter : ByteArray := prog_3_method_2_code
def yX1_speedAfter : MethodName := ⟨RX1, "speedAfter", "(IC)I"⟩
def RX2 : String := "Ghostracer$Lap"
def TX2 : u_T := fun k => match k with
  | 0 => ("Ghostracer$Lap", "inputs", "[C", true)
  | 1 => ("Ghostracer$Lap", "ticks", "I", false)
  | 2 => ("Ghostracer$Lap", "time", "I", false)
  | 3 => ("Ghostracer$Lap", "driver", "I", false)
  | 4 => ("Ghostracer$Lap", "track", "I", false)
  | 5 => ("Ghostracer$Lap", "car", "I", false)
  | 6 => ("Ghostracer$Lap", "ghost", "I", false)
  | 7 => ("Ghostracer$Lap", "round", "I", false)
  | 8 => ("Ghostracer$Lap", "penalty", "I", false)
  | 9 => ("Ghostracer$Lap", "stands", "Z", false)
  | 10 => ("Ghostracer$Lap", "base", "I", false)
  | 11 => ("Ghostracer$Lap", "depth", "I", false)
  | _ => ("Ghostracer$Lap", "parts", "I", false)
def tyX2 : Nat → FieldType := fun k => match k with
  | 0 => .array .char
  | 1 => .int
  | 2 => .int
  | 3 => .int
  | 4 => .int
  | 5 => .int
  | 6 => .int
  | 7 => .int
  | 8 => .int
  | 9 => .boolean
  | 10 => .int
  | 11 => .int
  | _ => .int
abbrev wsX20 : List Cond := u_ws RX2 TX2 13
theorem nmX2 : ∀ a, a < 13 → ∀ b, b < 13 → a ≠ b → (TX2 a).2.1 ≠ (TX2 b).2.1 := by decide +kernel
theorem tyX2_ok : ∀ k, k < 13 → parseFieldDescriptor (TX2 k).2.2.1 = some (tyX2 k) := by decide +kernel
abbrev cX2_init : ByteArray := prog_4_method_1_code
def yX2_init : MethodName := ⟨RX2, "<init>", "()V"⟩
abbrev cX2_keep : ByteArray := prog_4_method_2_code
def yX2_keep : MethodName := ⟨RX2, "keep", "(LGhostracer$Ride;[C)V"⟩
abbrev cX2_counted : ByteArray := prog_4_method_3_code
def yX2_counted : MethodName := ⟨RX2, "counted", "()I"⟩
abbrev cX2_inputsUnlike : ByteArray := prog_4_method_4_code
def yX2_inputsUnlike : MethodName := ⟨RX2, "inputsUnlike", "(LGhostracer$Lap;)I"⟩
def RX3 : String := "Ghostracer$Ride"
def TX3 : u_T := fun k => match k with
  | 0 => ("Ghostracer$Ride", "place", "I", false)
  | 1 => ("Ghostracer$Ride", "speed", "I", false)
  | 2 => ("Ghostracer$Ride", "ticks", "I", false)
  | 3 => ("Ghostracer$Ride", "time", "I", false)
  | _ => ("Ghostracer$Ride", "isOver", "Z", false)
def tyX3 : Nat → FieldType := fun k => match k with
  | 0 => .int
  | 1 => .int
  | 2 => .int
  | 3 => .int
  | _ => .boolean
abbrev wsX30 : List Cond := u_ws RX3 TX3 5
theorem nmX3 : ∀ a, a < 5 → ∀ b, b < 5 → a ≠ b → (TX3 a).2.1 ≠ (TX3 b).2.1 := by decide +kernel
theorem tyX3_ok : ∀ k, k < 5 → parseFieldDescriptor (TX3 k).2.2.1 = some (tyX3 k) := by decide +kernel
abbrev cX3_init : ByteArray := prog_5_method_1_code
def yX3_init : MethodName := ⟨RX3, "<init>", "()V"⟩
abbrev cX3_follow : ByteArray := prog_5_method_2_code
def yX3_follow : MethodName := ⟨RX3, "follow", "([CILGhostracer$Track;LGhostracer$Car;)V"⟩
abbrev cX3_move : ByteArray := prog_5_method_3_code
def yX3_move : MethodName := ⟨RX3, "move", "(CLGhostracer$Track;LGhostracer$Car;)V"⟩
abbrev cX3_finish : ByteArray := prog_5_method_4_code
def yX3_finish : MethodName := ⟨RX3, "finish", "(I)V"⟩
def RX4 : String := "Ghostracer$Season"
def TX4 : u_T := fun k => match k with
  | 0 => ("Ghostracer$Season", "tracks", "[I", true)
  | 1 => ("Ghostracer$Season", "rounds", "I", false)
  | 2 => ("Ghostracer$Season", "open", "I", false)
  | 3 => ("Ghostracer$Season", "dropped", "I", false)
  | 4 => ("Ghostracer$Season", "lapOf", "[I", true)
  | 5 => ("Ghostracer$Season", "scores", "[I", true)
  | 6 => ("Ghostracer$Season", "points", "[I", true)
  | _ => ("Ghostracer$Season", "won", "[I", true)
def tyX4 : Nat → FieldType := fun k => match k with
  | 0 => .array .int
  | 1 => .int
  | 2 => .int
  | 3 => .int
  | 4 => .array .int
  | 5 => .array .int
  | 6 => .array .int
  | _ => .array .int
abbrev wsX40 : List Cond := u_ws RX4 TX4 8
theorem nmX4 : ∀ a, a < 8 → ∀ b, b < 8 → a ≠ b → (TX4 a).2.1 ≠ (TX4 b).2.1 := by decide +kernel
theorem tyX4_ok : ∀ k, k < 8 → parseFieldDescriptor (TX4 k).2.2.1 = some (tyX4 k) := by decide +kernel
abbrev cX4_init : ByteArray := prog_6_method_1_code
def yX4_init : MethodName := ⟨RX4, "<init>", "()V"⟩
abbrev cX4_openOn : ByteArray := prog_6_method_2_code
def yX4_openOn : MethodName := ⟨RX4, "openOn", "(I)V"⟩
abbrev cX4_roundOn : ByteArray := prog_6_method_3_code
def yX4_roundOn : MethodName := ⟨RX4, "roundOn", "(I)I"⟩
abbrev cX4_findLaps : ByteArray := prog_6_method_4_code
def yX4_findLaps : MethodName := ⟨RX4, "findLaps", "(LGhostracer$Book;I)V"⟩
abbrev cX4_lapsAhead : ByteArray := prog_6_method_5_code
def yX4_lapsAhead : MethodName := ⟨RX4, "lapsAhead", "(LGhostracer$Book;I)I"⟩
abbrev cX4_reckon : ByteArray := prog_6_method_6_code
def yX4_reckon : MethodName := ⟨RX4, "reckon", "(LGhostracer$Book;)V"⟩
abbrev cX4_score : ByteArray := prog_6_method_7_code
def yX4_score : MethodName := ⟨RX4, "score", "(LGhostracer$Book;II)V"⟩
abbrev cX4_takeLeast : ByteArray := prog_6_method_8_code
def yX4_takeLeast : MethodName := ⟨RX4, "takeLeast", "(I)I"⟩
abbrev cX4_driverBehind : ByteArray := prog_6_method_9_code
def yX4_driverBehind : MethodName := ⟨RX4, "driverBehind", "(I)I"⟩
abbrev cX4_isAheadInSeason : ByteArray := prog_6_method_10_code
def yX4_isAheadInSeason : MethodName := ⟨RX4, "isAheadInSeason", "(II)Z"⟩
def RX5 : String := "Ghostracer$Track"
def TX5 : u_T := fun k => match k with
  | 0 => ("Ghostracer$Track", "ends", "[I", true)
  | 1 => ("Ghostracer$Track", "limits", "[I", true)
  | 2 => ("Ghostracer$Track", "stretches", "I", false)
  | 3 => ("Ghostracer$Track", "length", "I", false)
  | _ => ("Ghostracer$Track", "isDriven", "Z", false)
def tyX5 : Nat → FieldType := fun k => match k with
  | 0 => .array .int
  | 1 => .array .int
  | 2 => .int
  | 3 => .int
  | _ => .boolean
abbrev wsX50 : List Cond := u_ws RX5 TX5 5
theorem nmX5 : ∀ a, a < 5 → ∀ b, b < 5 → a ≠ b → (TX5 a).2.1 ≠ (TX5 b).2.1 := by decide +kernel
theorem tyX5_ok : ∀ k, k < 5 → parseFieldDescriptor (TX5 k).2.2.1 = some (tyX5 k) := by decide +kernel
abbrev cX5_init : ByteArray := prog_7_method_1_code
def yX5_init : MethodName := ⟨RX5, "<init>", "()V"⟩
abbrev cX5_append : ByteArray := prog_7_method_2_code
def yX5_append : MethodName := ⟨RX5, "append", "(II)V"⟩
abbrev cX5_limitOf : ByteArray := prog_7_method_3_code
def yX5_limitOf : MethodName := ⟨RX5, "limitOf", "(I)I"⟩
def RX6 : String := "Ghostracer"
def TX6 : u_T := fun k => match k with
  | 0 => ("Ghostracer", "tracks", "[LGhostracer$Track;", true)
  | 1 => ("Ghostracer", "trackCount", "I", false)
  | 2 => ("Ghostracer", "cars", "[LGhostracer$Car;", true)
  | 3 => ("Ghostracer", "carCount", "I", false)
  | 4 => ("Ghostracer", "typed", "[C", true)
  | 5 => ("Ghostracer", "typedCount", "I", false)
  | 6 => ("Ghostracer", "ride", "LGhostracer$Ride;", true)
  | 7 => ("Ghostracer", "book", "LGhostracer$Book;", true)
  | _ => ("Ghostracer", "season", "LGhostracer$Season;", true)
def tyX6 : Nat → FieldType := fun k => match k with
  | 0 => .array (.object "Ghostracer$Track")
  | 1 => .int
  | 2 => .array (.object "Ghostracer$Car")
  | 3 => .int
  | 4 => .array .char
  | 5 => .int
  | 6 => .object "Ghostracer$Ride"
  | 7 => .object "Ghostracer$Book"
  | _ => .object "Ghostracer$Season"
abbrev wsX60 : List Cond := u_ws RX6 TX6 9
theorem nmX6 : ∀ a, a < 9 → ∀ b, b < 9 → a ≠ b → (TX6 a).2.1 ≠ (TX6 b).2.1 := by decide +kernel
theorem tyX6_ok : ∀ k, k < 9 → parseFieldDescriptor (TX6 k).2.2.1 = some (tyX6 k) := by decide +kernel
abbrev cX6_init : ByteArray := prog_1_method_1_code
def yX6_init : MethodName := ⟨RX6, "<init>", "()V"⟩
abbrev cX6_track : ByteArray := prog_1_method_2_code
def yX6_track : MethodName := ⟨RX6, "track", "()I"⟩
abbrev cX6_stretch : ByteArray := prog_1_method_3_code
def yX6_stretch : MethodName := ⟨RX6, "stretch", "(III)I"⟩
abbrev cX6_car : ByteArray := prog_1_method_4_code
def yX6_car : MethodName := ⟨RX6, "car", "(III)I"⟩
abbrev cX6_lengthOf : ByteArray := prog_1_method_5_code
def yX6_lengthOf : MethodName := ⟨RX6, "lengthOf", "(I)I"⟩
abbrev cX6_limitAt : ByteArray := prog_1_method_6_code
def yX6_limitAt : MethodName := ⟨RX6, "limitAt", "(II)I"⟩
abbrev cX6_type : ByteArray := prog_1_method_7_code
def yX6_type : MethodName := ⟨RX6, "type", "(CI)I"⟩
abbrev cX6_wipe : ByteArray := prog_1_method_8_code
def yX6_wipe : MethodName := ⟨RX6, "wipe", "()I"⟩
abbrev cX6_drive : ByteArray := prog_1_method_9_code
def yX6_drive : MethodName := ⟨RX6, "drive", "(IIII)I"⟩
abbrev cX6_tryOut : ByteArray := prog_1_method_10_code
def yX6_tryOut : MethodName := ⟨RX6, "tryOut", "(II)I"⟩
abbrev cX6_rideTyped : ByteArray := prog_1_method_11_code
def yX6_rideTyped : MethodName := ⟨RX6, "rideTyped", "(LGhostracer$Track;LGhostracer$Car;)V"⟩
abbrev cX6_laps : ByteArray := prog_1_method_12_code
def yX6_laps : MethodName := ⟨RX6, "laps", "()I"⟩
abbrev cX6_time : ByteArray := prog_1_method_13_code
def yX6_time : MethodName := ⟨RX6, "time", "(IZ)I"⟩
abbrev cX6_ticks : ByteArray := prog_1_method_14_code
def yX6_ticks : MethodName := ⟨RX6, "ticks", "(I)I"⟩
abbrev cX6_inputAt : ByteArray := prog_1_method_15_code
def yX6_inputAt : MethodName := ⟨RX6, "inputAt", "(II)C"⟩
abbrev cX6_replay : ByteArray := prog_1_method_16_code
def yX6_replay : MethodName := ⟨RX6, "replay", "(IIZ)I"⟩
abbrev cX6_of : ByteArray := prog_1_method_17_code
def yX6_of : MethodName := ⟨RX6, "of", "(IC)I"⟩
abbrev cX6_beats : ByteArray := prog_1_method_18_code
def yX6_beats : MethodName := ⟨RX6, "beats", "(I)Z"⟩
abbrev cX6_least : ByteArray := prog_1_method_19_code
def yX6_least : MethodName := ⟨RX6, "least", "(I)I"⟩
abbrev cX6_base : ByteArray := prog_1_method_20_code
def yX6_base : MethodName := ⟨RX6, "base", "(I)I"⟩
abbrev cX6_depth : ByteArray := prog_1_method_21_code
def yX6_depth : MethodName := ⟨RX6, "depth", "(I)I"⟩
abbrev cX6_parts : ByteArray := prog_1_method_22_code
def yX6_parts : MethodName := ⟨RX6, "parts", "(I)I"⟩
abbrev cX6_stored : ByteArray := prog_1_method_23_code
def yX6_stored : MethodName := ⟨RX6, "stored", "()I"⟩
abbrev cX6_resting : ByteArray := prog_1_method_24_code
def yX6_resting : MethodName := ⟨RX6, "resting", "(I)I"⟩
abbrev cX6_strike : ByteArray := prog_1_method_25_code
def yX6_strike : MethodName := ⟨RX6, "strike", "(I)I"⟩
abbrev cX6_giveBack : ByteArray := prog_1_method_26_code
def yX6_giveBack : MethodName := ⟨RX6, "giveBack", "(I)I"⟩
abbrev cX6_stands : ByteArray := prog_1_method_27_code
def yX6_stands : MethodName := ⟨RX6, "stands", "(I)Z"⟩
abbrev cX6_penalty : ByteArray := prog_1_method_28_code
def yX6_penalty : MethodName := ⟨RX6, "penalty", "(II)I"⟩
abbrev cX6_round : ByteArray := prog_1_method_29_code
def yX6_round : MethodName := ⟨RX6, "round", "(I)I"⟩
abbrev cX6_shut : ByteArray := prog_1_method_30_code
def yX6_shut : MethodName := ⟨RX6, "shut", "()I"⟩
abbrev cX6_lapIn : ByteArray := prog_1_method_31_code
def yX6_lapIn : MethodName := ⟨RX6, "lapIn", "(II)I"⟩
abbrev cX6_placeIn : ByteArray := prog_1_method_32_code
def yX6_placeIn : MethodName := ⟨RX6, "placeIn", "(II)I"⟩
abbrev cX6_findLap : ByteArray := prog_1_method_33_code
def yX6_findLap : MethodName := ⟨RX6, "findLap", "(II)I"⟩
abbrev cX6_drop : ByteArray := prog_1_method_34_code
def yX6_drop : MethodName := ⟨RX6, "drop", "(I)I"⟩
abbrev cX6_points : ByteArray := prog_1_method_35_code
def yX6_points : MethodName := ⟨RX6, "points", "(I)I"⟩
abbrev cX6_wins : ByteArray := prog_1_method_36_code
def yX6_wins : MethodName := ⟨RX6, "wins", "(I)I"⟩
abbrev cX6_standing : ByteArray := prog_1_method_37_code
def yX6_standing : MethodName := ⟨RX6, "standing", "(I)I"⟩
abbrev cX6_checksum : ByteArray := prog_1_method_38_code
def yX6_checksum : MethodName := ⟨RX6, "checksum", "()J"⟩
abbrev cX6_shareStored : ByteArray := prog_1_method_39_code
def yX6_shareStored : MethodName := ⟨RX6, "shareStored", "()F"⟩
abbrev cX6_meanTime : ByteArray := prog_1_method_40_code
def yX6_meanTime : MethodName := ⟨RX6, "meanTime", "()D"⟩
abbrev cX6_isSound : ByteArray := prog_1_method_41_code
def yX6_isSound : MethodName := ⟨RX6, "isSound", "()Z"⟩
abbrev cX6_rideAgain : ByteArray := prog_1_method_42_code
def yX6_rideAgain : MethodName := ⟨RX6, "rideAgain", "(LGhostracer$Lap;I)V"⟩
abbrev cX6_isWithin : ByteArray := prog_1_method_43_code
def yX6_isWithin : MethodName := ⟨RX6, "isWithin", "(III)Z"⟩
abbrev cX6_trackNumbered : ByteArray := prog_1_method_44_code
def yX6_trackNumbered : MethodName := ⟨RX6, "trackNumbered", "(I)LGhostracer$Track;"⟩
abbrev cX6_carNumbered : ByteArray := prog_1_method_45_code
def yX6_carNumbered : MethodName := ⟨RX6, "carNumbered", "(I)LGhostracer$Car;"⟩
abbrev cX6_lapNumbered : ByteArray := prog_1_method_46_code
def yX6_lapNumbered : MethodName := ⟨RX6, "lapNumbered", "(I)LGhostracer$Lap;"⟩
abbrev cX6_requireDriver : ByteArray := prog_1_method_47_code
def yX6_requireDriver : MethodName := ⟨RX6, "requireDriver", "(I)V"⟩
def RX7 : String := "GhostracerModel"
def TX7 : u_T := fun k => match k with
  | 0 => ("GhostracerModel", "code", "I", false)
  | 1 => ("GhostracerModel", "tracks", "I", false)
  | 2 => ("GhostracerModel", "stretches", "[I", true)
  | 3 => ("GhostracerModel", "length", "[I", true)
  | 4 => ("GhostracerModel", "limit", "[I", true)
  | 5 => ("GhostracerModel", "cars", "I", false)
  | 6 => ("GhostracerModel", "top", "[I", true)
  | 7 => ("GhostracerModel", "pull", "[I", true)
  | 8 => ("GhostracerModel", "grip", "[I", true)
  | 9 => ("GhostracerModel", "typed", "I", false)
  | 10 => ("GhostracerModel", "row", "[C", true)
  | 11 => ("GhostracerModel", "laps", "I", false)
  | 12 => ("GhostracerModel", "input", "[C", true)
  | 13 => ("GhostracerModel", "ticks", "[I", true)
  | 14 => ("GhostracerModel", "time", "[I", true)
  | 15 => ("GhostracerModel", "penalty", "[I", true)
  | 16 => ("GhostracerModel", "driver", "[I", true)
  | 17 => ("GhostracerModel", "track", "[I", true)
  | 18 => ("GhostracerModel", "car", "[I", true)
  | 19 => ("GhostracerModel", "ghost", "[I", true)
  | 20 => ("GhostracerModel", "round", "[I", true)
  | 21 => ("GhostracerModel", "base", "[I", true)
  | 22 => ("GhostracerModel", "isOut", "[Z", true)
  | 23 => ("GhostracerModel", "rounds", "I", false)
  | 24 => ("GhostracerModel", "isOpen", "Z", false)
  | 25 => ("GhostracerModel", "roundTrack", "[I", true)
  | 26 => ("GhostracerModel", "dropped", "I", false)
  | 27 => ("GhostracerModel", "counted", "[I", true)
  | 28 => ("GhostracerModel", "place", "I", false)
  | 29 => ("GhostracerModel", "speed", "I", false)
  | 30 => ("GhostracerModel", "tick", "I", false)
  | _ => ("GhostracerModel", "isOver", "Z", false)
def tyX7 : Nat → FieldType := fun k => match k with
  | 0 => .int
  | 1 => .int
  | 2 => .array .int
  | 3 => .array .int
  | 4 => .array .int
  | 5 => .int
  | 6 => .array .int
  | 7 => .array .int
  | 8 => .array .int
  | 9 => .int
  | 10 => .array .char
  | 11 => .int
  | 12 => .array .char
  | 13 => .array .int
  | 14 => .array .int
  | 15 => .array .int
  | 16 => .array .int
  | 17 => .array .int
  | 18 => .array .int
  | 19 => .array .int
  | 20 => .array .int
  | 21 => .array .int
  | 22 => .array .boolean
  | 23 => .int
  | 24 => .boolean
  | 25 => .array .int
  | 26 => .int
  | 27 => .array .int
  | 28 => .int
  | 29 => .int
  | 30 => .int
  | _ => .boolean
abbrev wsX70 : List Cond := u_ws RX7 TX7 32
theorem nmX7 : ∀ a, a < 32 → ∀ b, b < 32 → a ≠ b → (TX7 a).2.1 ≠ (TX7 b).2.1 := by decide +kernel
theorem tyX7_ok : ∀ k, k < 32 → parseFieldDescriptor (TX7 k).2.2.1 = some (tyX7 k) := by decide +kernel
abbrev cX7_init : ByteArray := prog_9_method_1_code
def yX7_init : MethodName := ⟨RX7, "<init>", "()V"⟩
abbrev cX7_thrown : ByteArray := prog_9_method_2_code
def yX7_thrown : MethodName := ⟨RX7, "thrown", "()I"⟩
abbrev cX7_fails : ByteArray := prog_9_method_3_code
def yX7_fails : MethodName := ⟨RX7, "fails", "(I)Z"⟩
abbrev cX7_in : ByteArray := prog_9_method_4_code
def yX7_in : MethodName := ⟨RX7, "in", "(III)Z"⟩
abbrev cX7_isNoTrack : ByteArray := prog_9_method_5_code
def yX7_isNoTrack : MethodName := ⟨RX7, "isNoTrack", "(I)Z"⟩
abbrev cX7_isNoCar : ByteArray := prog_9_method_6_code
def yX7_isNoCar : MethodName := ⟨RX7, "isNoCar", "(I)Z"⟩
abbrev cX7_isNoLap : ByteArray := prog_9_method_7_code
def yX7_isNoLap : MethodName := ⟨RX7, "isNoLap", "(I)Z"⟩
abbrev cX7_track : ByteArray := prog_9_method_8_code
def yX7_track : MethodName := ⟨RX7, "track", "()I"⟩
abbrev cX7_lengthNow : ByteArray := prog_9_method_9_code
def yX7_lengthNow : MethodName := ⟨RX7, "lengthNow", "(I)I"⟩
abbrev cX7_stretch : ByteArray := prog_9_method_10_code
def yX7_stretch : MethodName := ⟨RX7, "stretch", "(III)I"⟩
abbrev cX7_car : ByteArray := prog_9_method_11_code
def yX7_car : MethodName := ⟨RX7, "car", "(III)I"⟩
abbrev cX7_lengthOf : ByteArray := prog_9_method_12_code
def yX7_lengthOf : MethodName := ⟨RX7, "lengthOf", "(I)I"⟩
abbrev cX7_limitNow : ByteArray := prog_9_method_13_code
def yX7_limitNow : MethodName := ⟨RX7, "limitNow", "(II)I"⟩
abbrev cX7_limitAt : ByteArray := prog_9_method_14_code
def yX7_limitAt : MethodName := ⟨RX7, "limitAt", "(II)I"⟩
abbrev cX7_type : ByteArray := prog_9_method_15_code
def yX7_type : MethodName := ⟨RX7, "type", "(CI)I"⟩
abbrev cX7_wipe : ByteArray := prog_9_method_16_code
def yX7_wipe : MethodName := ⟨RX7, "wipe", "()I"⟩
abbrev cX7_starts : ByteArray := prog_9_method_17_code
def yX7_starts : MethodName := ⟨RX7, "starts", "()V"⟩
abbrev cX7_goes : ByteArray := prog_9_method_18_code
def yX7_goes : MethodName := ⟨RX7, "goes", "(IIC)V"⟩
abbrev cX7_drives : ByteArray := prog_9_method_19_code
def yX7_drives : MethodName := ⟨RX7, "drives", "(II)V"⟩
abbrev cX7_timeNow : ByteArray := prog_9_method_20_code
def yX7_timeNow : MethodName := ⟨RX7, "timeNow", "(I)I"⟩
abbrev cX7_canDrive : ByteArray := prog_9_method_21_code
def yX7_canDrive : MethodName := ⟨RX7, "canDrive", "(II)Z"⟩
abbrev cX7_isGhost : ByteArray := prog_9_method_22_code
def yX7_isGhost : MethodName := ⟨RX7, "isGhost", "(II)Z"⟩
abbrev cX7_drive : ByteArray := prog_9_method_23_code
def yX7_drive : MethodName := ⟨RX7, "drive", "(IIII)I"⟩
abbrev cX7_tryOut : ByteArray := prog_9_method_24_code
def yX7_tryOut : MethodName := ⟨RX7, "tryOut", "(II)I"⟩
abbrev cX7_laps : ByteArray := prog_9_method_25_code
def yX7_laps : MethodName := ⟨RX7, "laps", "()I"⟩
abbrev cX7_countOf : ByteArray := prog_9_method_26_code
def yX7_countOf : MethodName := ⟨RX7, "countOf", "(I)I"⟩
abbrev cX7_time : ByteArray := prog_9_method_27_code
def yX7_time : MethodName := ⟨RX7, "time", "(IZ)I"⟩
abbrev cX7_ticks : ByteArray := prog_9_method_28_code
def yX7_ticks : MethodName := ⟨RX7, "ticks", "(I)I"⟩
abbrev cX7_inputAt : ByteArray := prog_9_method_29_code
def yX7_inputAt : MethodName := ⟨RX7, "inputAt", "(II)C"⟩
abbrev cX7_replay : ByteArray := prog_9_method_30_code
def yX7_replay : MethodName := ⟨RX7, "replay", "(IIZ)I"⟩
abbrev cX7_of : ByteArray := prog_9_method_31_code
def yX7_of : MethodName := ⟨RX7, "of", "(IC)I"⟩
abbrev cX7_beats : ByteArray := prog_9_method_32_code
def yX7_beats : MethodName := ⟨RX7, "beats", "(I)Z"⟩
abbrev cX7_least : ByteArray := prog_9_method_33_code
def yX7_least : MethodName := ⟨RX7, "least", "(I)I"⟩
abbrev cX7_depthOf : ByteArray := prog_9_method_34_code
def yX7_depthOf : MethodName := ⟨RX7, "depthOf", "(I)I"⟩
abbrev cX7_partsOf : ByteArray := prog_9_method_35_code
def yX7_partsOf : MethodName := ⟨RX7, "partsOf", "(I)I"⟩
abbrev cX7_base : ByteArray := prog_9_method_36_code
def yX7_base : MethodName := ⟨RX7, "base", "(I)I"⟩
abbrev cX7_depth : ByteArray := prog_9_method_37_code
def yX7_depth : MethodName := ⟨RX7, "depth", "(I)I"⟩
abbrev cX7_parts : ByteArray := prog_9_method_38_code
def yX7_parts : MethodName := ⟨RX7, "parts", "(I)I"⟩
abbrev cX7_allParts : ByteArray := prog_9_method_39_code
def yX7_allParts : MethodName := ⟨RX7, "allParts", "()I"⟩
abbrev cX7_stored : ByteArray := prog_9_method_40_code
def yX7_stored : MethodName := ⟨RX7, "stored", "()I"⟩
abbrev cX7_rests : ByteArray := prog_9_method_41_code
def yX7_rests : MethodName := ⟨RX7, "rests", "(II)Z"⟩
abbrev cX7_resting : ByteArray := prog_9_method_42_code
def yX7_resting : MethodName := ⟨RX7, "resting", "(I)I"⟩
abbrev cX7_strike : ByteArray := prog_9_method_43_code
def yX7_strike : MethodName := ⟨RX7, "strike", "(I)I"⟩
abbrev cX7_giveBack : ByteArray := prog_9_method_44_code
def yX7_giveBack : MethodName := ⟨RX7, "giveBack", "(I)I"⟩
abbrev cX7_stands : ByteArray := prog_9_method_45_code
def yX7_stands : MethodName := ⟨RX7, "stands", "(I)Z"⟩
abbrev cX7_penalty : ByteArray := prog_9_method_46_code
def yX7_penalty : MethodName := ⟨RX7, "penalty", "(II)I"⟩
abbrev cX7_round : ByteArray := prog_9_method_47_code
def yX7_round : MethodName := ⟨RX7, "round", "(I)I"⟩
abbrev cX7_shut : ByteArray := prog_9_method_48_code
def yX7_shut : MethodName := ⟨RX7, "shut", "()I"⟩
abbrev cX7_lapNow : ByteArray := prog_9_method_49_code
def yX7_lapNow : MethodName := ⟨RX7, "lapNow", "(II)I"⟩
abbrev cX7_isNoSeat : ByteArray := prog_9_method_50_code
def yX7_isNoSeat : MethodName := ⟨RX7, "isNoSeat", "(II)Z"⟩
abbrev cX7_lapIn : ByteArray := prog_9_method_51_code
def yX7_lapIn : MethodName := ⟨RX7, "lapIn", "(II)I"⟩
abbrev cX7_placeNow : ByteArray := prog_9_method_52_code
def yX7_placeNow : MethodName := ⟨RX7, "placeNow", "(II)I"⟩
abbrev cX7_placeIn : ByteArray := prog_9_method_53_code
def yX7_placeIn : MethodName := ⟨RX7, "placeIn", "(II)I"⟩
abbrev cX7_drop : ByteArray := prog_9_method_54_code
def yX7_drop : MethodName := ⟨RX7, "drop", "(I)I"⟩
abbrev cX7_worth : ByteArray := prog_9_method_55_code
def yX7_worth : MethodName := ⟨RX7, "worth", "(I)I"⟩
abbrev cX7_pointsOf : ByteArray := prog_9_method_56_code
def yX7_pointsOf : MethodName := ⟨RX7, "pointsOf", "(I)I"⟩
abbrev cX7_winsOf : ByteArray := prog_9_method_57_code
def yX7_winsOf : MethodName := ⟨RX7, "winsOf", "(I)I"⟩
abbrev cX7_isNoDriver : ByteArray := prog_9_method_58_code
def yX7_isNoDriver : MethodName := ⟨RX7, "isNoDriver", "(I)Z"⟩
abbrev cX7_points : ByteArray := prog_9_method_59_code
def yX7_points : MethodName := ⟨RX7, "points", "(I)I"⟩
abbrev cX7_wins : ByteArray := prog_9_method_60_code
def yX7_wins : MethodName := ⟨RX7, "wins", "(I)I"⟩
abbrev cX7_standing : ByteArray := prog_9_method_61_code
def yX7_standing : MethodName := ⟨RX7, "standing", "(I)I"⟩
abbrev cX7_checksum : ByteArray := prog_9_method_62_code
def yX7_checksum : MethodName := ⟨RX7, "checksum", "()J"⟩
abbrev cX7_shareStored : ByteArray := prog_9_method_63_code
def yX7_shareStored : MethodName := ⟨RX7, "shareStored", "()F"⟩
abbrev cX7_meanTime : ByteArray := prog_9_method_64_code
def yX7_meanTime : MethodName := ⟨RX7, "meanTime", "()D"⟩
abbrev cX7_isSound : ByteArray := prog_9_method_65_code
def yX7_isSound : MethodName := ⟨RX7, "isSound", "()Z"⟩
def RJx145de : String := "java/io/Serializable"
def TJx145de : u_T := fun k => match k with
  | _ => ("", "", "", false)
def tyJx145de : Nat → FieldType := fun k => match k with
  | _ => .int
abbrev wsJx145de0 : List Cond := u_ws RJx145de TJx145de 0
theorem nmJx145de : ∀ a, a < 0 → ∀ b, b < 0 → a ≠ b → (TJx145de a).2.1 ≠ (TJx145de b).2.1 := by decide +kernel
theorem tyJx145de_ok : ∀ k, k < 0 → parseFieldDescriptor (TJx145de k).2.2.1 = some (tyJx145de k) := by decide +kernel
def RJ9 : String := "java/lang/Math"
def TJ9 : u_T := fun k => match k with
  | _ => ("", "", "", false)
def tyJ9 : Nat → FieldType := fun k => match k with
  | _ => .int
abbrev wsJ90 : List Cond := u_ws RJ9 TJ9 0
theorem nmJ9 : ∀ a, a < 0 → ∀ b, b < 0 → a ≠ b → (TJ9 a).2.1 ≠ (TJ9 b).2.1 := by decide +kernel
theorem tyJ9_ok : ∀ k, k < 0 → parseFieldDescriptor (TJ9 k).2.2.1 = some (tyJ9 k) := by decide +kernel
abbrev cJ9_max_7cf53 : ByteArray := prog_15_method_65_code
def yJ9_max_7cf53 : MethodName := ⟨RJ9, "max", "(II)I"⟩
abbrev cJ9_min_7cf53 : ByteArray := prog_15_method_69_code
def yJ9_min_7cf53 : MethodName := ⟨RJ9, "min", "(II)I"⟩
def RJ0 : String := "java/lang/String"
def TJ0 : u_T := fun k => match k with
  | _ => ("", "", "", false)
def tyJ0 : Nat → FieldType := fun k => match k with
  | _ => .int
abbrev wsJ00 : List Cond := u_ws RJ0 TJ0 0
theorem nmJ0 : ∀ a, a < 0 → ∀ b, b < 0 → a ≠ b → (TJ0 a).2.1 ≠ (TJ0 b).2.1 := by decide +kernel
theorem tyJ0_ok : ∀ k, k < 0 → parseFieldDescriptor (TJ0 k).2.2.1 = some (tyJ0 k) := by decide +kernel
def RL : String := "GhostracerLaw"
abbrev cL_track : ByteArray := method_3_code
def yL_track : MethodName := ⟨RL, "track", "(LGhostracer;[J)I"⟩
abbrev cL_stretch : ByteArray := method_4_code
def yL_stretch : MethodName := ⟨RL, "stretch", "(LGhostracer;III[J)I"⟩
abbrev cL_car : ByteArray := method_5_code
def yL_car : MethodName := ⟨RL, "car", "(LGhostracer;III[J)I"⟩
abbrev cL_lengthOf : ByteArray := method_6_code
def yL_lengthOf : MethodName := ⟨RL, "lengthOf", "(LGhostracer;I[J)I"⟩
abbrev cL_limitAt : ByteArray := method_7_code
def yL_limitAt : MethodName := ⟨RL, "limitAt", "(LGhostracer;II[J)I"⟩
abbrev cL_type : ByteArray := method_8_code
def yL_type : MethodName := ⟨RL, "type", "(LGhostracer;CI[J)I"⟩
abbrev cL_drive : ByteArray := method_9_code
def yL_drive : MethodName := ⟨RL, "drive", "(LGhostracer;IIII[J)I"⟩
abbrev cL_tryOut : ByteArray := method_10_code
def yL_tryOut : MethodName := ⟨RL, "tryOut", "(LGhostracer;II[J)I"⟩
abbrev cL_time : ByteArray := method_11_code
def yL_time : MethodName := ⟨RL, "time", "(LGhostracer;IZ[J)I"⟩
abbrev cL_ticks : ByteArray := method_12_code
def yL_ticks : MethodName := ⟨RL, "ticks", "(LGhostracer;I[J)I"⟩
abbrev cL_inputAt : ByteArray := method_13_code
def yL_inputAt : MethodName := ⟨RL, "inputAt", "(LGhostracer;II[J)I"⟩
abbrev cL_replay : ByteArray := method_14_code
def yL_replay : MethodName := ⟨RL, "replay", "(LGhostracer;IIZ[J)I"⟩
abbrev cL_of : ByteArray := method_15_code
def yL_of : MethodName := ⟨RL, "of", "(LGhostracer;IC[J)I"⟩
abbrev cL_beats : ByteArray := method_16_code
def yL_beats : MethodName := ⟨RL, "beats", "(LGhostracer;I[J)I"⟩
abbrev cL_least : ByteArray := method_17_code
def yL_least : MethodName := ⟨RL, "least", "(LGhostracer;I[J)I"⟩
abbrev cL_base : ByteArray := method_18_code
def yL_base : MethodName := ⟨RL, "base", "(LGhostracer;I[J)I"⟩
abbrev cL_depth : ByteArray := method_19_code
def yL_depth : MethodName := ⟨RL, "depth", "(LGhostracer;I[J)I"⟩
abbrev cL_parts : ByteArray := method_20_code
def yL_parts : MethodName := ⟨RL, "parts", "(LGhostracer;I[J)I"⟩
abbrev cL_resting : ByteArray := method_21_code
def yL_resting : MethodName := ⟨RL, "resting", "(LGhostracer;I[J)I"⟩
abbrev cL_strike : ByteArray := method_22_code
def yL_strike : MethodName := ⟨RL, "strike", "(LGhostracer;I[J)I"⟩
abbrev cL_giveBack : ByteArray := method_23_code
def yL_giveBack : MethodName := ⟨RL, "giveBack", "(LGhostracer;I[J)I"⟩
abbrev cL_stands : ByteArray := method_24_code
def yL_stands : MethodName := ⟨RL, "stands", "(LGhostracer;I[J)I"⟩
abbrev cL_penalty : ByteArray := method_25_code
def yL_penalty : MethodName := ⟨RL, "penalty", "(LGhostracer;II[J)I"⟩
abbrev cL_round : ByteArray := method_26_code
def yL_round : MethodName := ⟨RL, "round", "(LGhostracer;I[J)I"⟩
abbrev cL_shut : ByteArray := method_27_code
def yL_shut : MethodName := ⟨RL, "shut", "(LGhostracer;[J)I"⟩
abbrev cL_lapIn : ByteArray := method_28_code
def yL_lapIn : MethodName := ⟨RL, "lapIn", "(LGhostracer;II[J)I"⟩
abbrev cL_placeIn : ByteArray := method_29_code
def yL_placeIn : MethodName := ⟨RL, "placeIn", "(LGhostracer;II[J)I"⟩
abbrev cL_drop : ByteArray := method_30_code
def yL_drop : MethodName := ⟨RL, "drop", "(LGhostracer;I[J)I"⟩
abbrev cL_points : ByteArray := method_31_code
def yL_points : MethodName := ⟨RL, "points", "(LGhostracer;I[J)I"⟩
abbrev cL_wins : ByteArray := method_32_code
def yL_wins : MethodName := ⟨RL, "wins", "(LGhostracer;I[J)I"⟩
abbrev cL_standing : ByteArray := method_33_code
def yL_standing : MethodName := ⟨RL, "standing", "(LGhostracer;I[J)I"⟩
abbrev cL_shareStored : ByteArray := method_34_code
def yL_shareStored : MethodName := ⟨RL, "shareStored", "(LGhostracer;[D)I"⟩
abbrev cL_meanTime : ByteArray := method_35_code
def yL_meanTime : MethodName := ⟨RL, "meanTime", "(LGhostracer;[D)I"⟩
abbrev cL_law : ByteArray := code
def yL_law : MethodName := ⟨RL, "law", "([I)Z"⟩
def wsX2_init : List Cond := .code yX2_init cX2_init 1 none :: ([.methodLink RX2 3 objectInit, .instanceMethod objectInit, .code objectInit ⟨#[0xb1]⟩ 1 none, .arrayClass .char, .fieldLink RX2 9 "Ghostracer$Lap" "inputs" "[C"] ++ wsX20)
def wsX0_init : List Cond := .code yX0_init cX0_init 2 none :: ([.methodLink RX0 3 objectInit, .instanceMethod objectInit, .code objectInit ⟨#[0xb1]⟩ 1 none, .classLink RX0 9 RX2, .fieldLink RX0 11 "Ghostracer$Book" "laps" "[LGhostracer$Lap;", .instantiable RX2 13, .initialized RX2, .instanceMethod yX2_init, .code yX2_init cX2_init 1 none, .methodLink RX2 3 objectInit, .arrayClass .char, .fieldLink RX2 9 "Ghostracer$Lap" "inputs" "[C"] ++ wsX00 ++ wsX20)
def wsX0_has : List Cond := .code yX0_has cX0_has 2 (some .boolean) :: ([.fieldLink RX0 18 "Ghostracer$Book" "count" "I"] ++ wsX00)
def wsX0_hasGhost : List Cond := .code yX0_hasGhost cX0_hasGhost 3 (some .boolean) :: ([.fieldLink RX0 11 "Ghostracer$Book" "laps" "[LGhostracer$Lap;", .fieldLink RX0 26 "Ghostracer$Lap" "track" "I", .fieldLink RX0 29 "Ghostracer$Lap" "stands" "Z", .methodLink RX0 22 yX0_has, .instanceMethod yX0_has, .selects RX0 yX0_has yX0_has, .initialized RX0, .code yX0_has cX0_has 2 (some .boolean), .fieldLink RX0 18 "Ghostracer$Book" "count" "I"] ++ wsX00 ++ wsX20)
def wsX2_inputsUnlike : List Cond := .code yX2_inputsUnlike cX2_inputsUnlike 4 (some .int) :: ([.fieldLink RX2 21 "Ghostracer$Lap" "ticks" "I", .fieldLink RX2 9 "Ghostracer$Lap" "inputs" "[C"] ++ wsX20)
def wsX0_store : List Cond := .code yX0_store cX0_store 3 none :: ([.fieldLink RX0 47 "Ghostracer$Lap" "base" "I", .fieldLink RX0 11 "Ghostracer$Book" "laps" "[LGhostracer$Lap;", .fieldLink RX0 54 "Ghostracer$Lap" "ticks" "I", .fieldLink RX0 57 "Ghostracer$Lap" "parts" "I", .methodLink RX0 22 yX0_has, .instanceMethod yX0_has, .selects RX0 yX0_has yX0_has, .initialized RX0, .code yX0_has cX0_has 2 (some .boolean), .fieldLink RX0 18 "Ghostracer$Book" "count" "I", .methodLink RX0 50 yX2_inputsUnlike, .instanceMethod yX2_inputsUnlike, .selects RX2 yX2_inputsUnlike yX2_inputsUnlike, .initialized RX2, .code yX2_inputsUnlike cX2_inputsUnlike 4 (some .int), .fieldLink RX2 21 "Ghostracer$Lap" "ticks" "I", .fieldLink RX2 9 "Ghostracer$Lap" "inputs" "[C"] ++ wsX20 ++ wsX00)
def wsX0_settleDepth : List Cond := .code yX0_settleDepth cX0_settleDepth 2 none :: ([.fieldLink RX0 47 "Ghostracer$Lap" "base" "I", .fieldLink RX0 11 "Ghostracer$Book" "laps" "[LGhostracer$Lap;", .fieldLink RX0 36 "Ghostracer$Lap" "depth" "I", .methodLink RX0 22 yX0_has, .instanceMethod yX0_has, .selects RX0 yX0_has yX0_has, .initialized RX0, .code yX0_has cX0_has 2 (some .boolean), .fieldLink RX0 18 "Ghostracer$Book" "count" "I"] ++ wsX20 ++ wsX00)
def wsX0_add_r1 : List Cond := [Cond.fieldLink RX0 33 "Ghostracer$Lap" "ghost" "I", Cond.fieldLink RX0 11 "Ghostracer$Book" "laps" "[LGhostracer$Lap;", Cond.fieldLink RX0 36 "Ghostracer$Lap" "depth" "I", Cond.fieldLink RX0 18 "Ghostracer$Book" "count" "I", Cond.methodLink RX0 22 yX0_has, Cond.instanceMethod yX0_has, Cond.selects RX0 yX0_has yX0_has, Cond.initialized RX0, Cond.code yX0_has cX0_has 2 (some .boolean), Cond.methodLink RX0 39 yX0_store, Cond.instanceMethod yX0_store, Cond.selects RX0 yX0_store yX0_store, Cond.code yX0_store cX0_store 3 none, Cond.fieldLink RX0 47 "Ghostracer$Lap" "base" "I", Cond.fieldLink RX0 54 "Ghostracer$Lap" "ticks" "I", Cond.fieldLink RX0 57 "Ghostracer$Lap" "parts" "I", Cond.methodLink RX0 50 yX2_inputsUnlike, Cond.instanceMethod yX2_inputsUnlike, Cond.selects RX2 yX2_inputsUnlike yX2_inputsUnlike, Cond.initialized RX2, Cond.code yX2_inputsUnlike cX2_inputsUnlike 4 (some .int), Cond.fieldLink RX2 21 "Ghostracer$Lap" "ticks" "I", Cond.fieldLink RX2 9 "Ghostracer$Lap" "inputs" "[C", Cond.methodLink RX0 43 yX0_settleDepth]
def wsX0_add_r2 : List Cond := [Cond.instanceMethod yX0_settleDepth, Cond.selects RX0 yX0_settleDepth yX0_settleDepth, Cond.code yX0_settleDepth cX0_settleDepth 2 none]
def wsX0_add : List Cond := .code yX0_add cX0_add 3 none :: ((wsX0_add_r1 ++ wsX0_add_r2) ++ wsX20 ++ wsX00)
def wsX0_moveFrom_r1 : List Cond := [Cond.fieldLink RX0 18 "Ghostracer$Book" "count" "I", Cond.fieldLink RX0 11 "Ghostracer$Book" "laps" "[LGhostracer$Lap;", Cond.fieldLink RX0 47 "Ghostracer$Lap" "base" "I", Cond.methodLink RX0 39 yX0_store, Cond.instanceMethod yX0_store, Cond.selects RX0 yX0_store yX0_store, Cond.initialized RX0, Cond.code yX0_store cX0_store 3 none, Cond.fieldLink RX0 54 "Ghostracer$Lap" "ticks" "I", Cond.fieldLink RX0 57 "Ghostracer$Lap" "parts" "I", Cond.methodLink RX0 22 yX0_has, Cond.instanceMethod yX0_has, Cond.selects RX0 yX0_has yX0_has, Cond.code yX0_has cX0_has 2 (some .boolean), Cond.methodLink RX0 50 yX2_inputsUnlike, Cond.instanceMethod yX2_inputsUnlike, Cond.selects RX2 yX2_inputsUnlike yX2_inputsUnlike, Cond.initialized RX2, Cond.code yX2_inputsUnlike cX2_inputsUnlike 4 (some .int), Cond.fieldLink RX2 21 "Ghostracer$Lap" "ticks" "I", Cond.fieldLink RX2 9 "Ghostracer$Lap" "inputs" "[C", Cond.methodLink RX0 43 yX0_settleDepth, Cond.instanceMethod yX0_settleDepth, Cond.selects RX0 yX0_settleDepth yX0_settleDepth]
def wsX0_moveFrom_r2 : List Cond := [Cond.code yX0_settleDepth cX0_settleDepth 2 none, Cond.fieldLink RX0 36 "Ghostracer$Lap" "depth" "I"]
def wsX0_moveFrom : List Cond := .code yX0_moveFrom cX0_moveFrom 5 (some .int) :: ((wsX0_moveFrom_r1 ++ wsX0_moveFrom_r2) ++ wsX00 ++ wsX20)
def wsX0_restsOn : List Cond := .code yX0_restsOn cX0_restsOn 5 (some .boolean) :: ([.fieldLink RX0 11 "Ghostracer$Book" "laps" "[LGhostracer$Lap;", .fieldLink RX0 47 "Ghostracer$Lap" "base" "I", .methodLink RX0 22 yX0_has, .instanceMethod yX0_has, .selects RX0 yX0_has yX0_has, .initialized RX0, .code yX0_has cX0_has 2 (some .boolean), .fieldLink RX0 18 "Ghostracer$Book" "count" "I"] ++ wsX00 ++ wsX20)
def wsX0_countResting : List Cond := .code yX0_countResting cX0_countResting 4 (some .int) :: ([.fieldLink RX0 18 "Ghostracer$Book" "count" "I", .methodLink RX0 60 yX0_restsOn, .instanceMethod yX0_restsOn, .selects RX0 yX0_restsOn yX0_restsOn, .initialized RX0, .code yX0_restsOn cX0_restsOn 5 (some .boolean), .fieldLink RX0 11 "Ghostracer$Book" "laps" "[LGhostracer$Lap;", .fieldLink RX0 47 "Ghostracer$Lap" "base" "I", .methodLink RX0 22 yX0_has, .instanceMethod yX0_has, .selects RX0 yX0_has yX0_has, .code yX0_has cX0_has 2 (some .boolean)] ++ wsX00 ++ wsX20)
def wsX0_countStanding : List Cond := .code yX0_countStanding cX0_countStanding 3 (some .int) :: ([.fieldLink RX0 18 "Ghostracer$Book" "count" "I", .fieldLink RX0 11 "Ghostracer$Book" "laps" "[LGhostracer$Lap;", .fieldLink RX0 29 "Ghostracer$Lap" "stands" "Z"] ++ wsX00 ++ wsX20)
def wsX2_counted : List Cond := .code yX2_counted cX2_counted 1 (some .int) :: ([.fieldLink RX2 25 "Ghostracer$Lap" "time" "I", .fieldLink RX2 30 "Ghostracer$Lap" "penalty" "I"] ++ wsX20)
def wsX0_isAhead : List Cond := .code yX0_isAhead cX0_isAhead 5 (some .boolean) :: ([.fieldLink RX0 11 "Ghostracer$Book" "laps" "[LGhostracer$Lap;", .methodLink RX0 22 yX0_has, .instanceMethod yX0_has, .selects RX0 yX0_has yX0_has, .initialized RX0, .code yX0_has cX0_has 2 (some .boolean), .fieldLink RX0 18 "Ghostracer$Book" "count" "I", .methodLink RX0 67 yX2_counted, .instanceMethod yX2_counted, .selects RX2 yX2_counted yX2_counted, .initialized RX2, .code yX2_counted cX2_counted 1 (some .int), .fieldLink RX2 25 "Ghostracer$Lap" "time" "I", .fieldLink RX2 30 "Ghostracer$Lap" "penalty" "I"] ++ wsX00 ++ wsX20)
def wsX0_leastOn : List Cond := .code yX0_leastOn cX0_leastOn 4 (some .int) :: ([.fieldLink RX0 18 "Ghostracer$Book" "count" "I", .fieldLink RX0 11 "Ghostracer$Book" "laps" "[LGhostracer$Lap;", .fieldLink RX0 29 "Ghostracer$Lap" "stands" "Z", .fieldLink RX0 26 "Ghostracer$Lap" "track" "I", .methodLink RX0 64 yX0_isAhead, .instanceMethod yX0_isAhead, .selects RX0 yX0_isAhead yX0_isAhead, .initialized RX0, .code yX0_isAhead cX0_isAhead 5 (some .boolean), .methodLink RX0 22 yX0_has, .instanceMethod yX0_has, .selects RX0 yX0_has yX0_has, .code yX0_has cX0_has 2 (some .boolean), .methodLink RX0 67 yX2_counted, .instanceMethod yX2_counted, .selects RX2 yX2_counted yX2_counted, .initialized RX2, .code yX2_counted cX2_counted 1 (some .int), .fieldLink RX2 25 "Ghostracer$Lap" "time" "I", .fieldLink RX2 30 "Ghostracer$Lap" "penalty" "I"] ++ wsX00 ++ wsX20)
def wsX1_init : List Cond := .code yX1_init cX1_init 1 none :: ([.methodLink RX1 1 objectInit, .instanceMethod objectInit, .code objectInit ⟨#[0xb1]⟩ 1 none])
def wsX1_speedAfter : List Cond := .code yX1_speedAfter cX1_speedAfter 3 (some .int) :: ([.fieldLink RX1 7 "Ghostracer$Car" "top" "I", .fieldLink RX1 13 "Ghostracer$Car" "pull" "I", .methodLink RX1 16 Lib.Math.min.name, .static Lib.Math.min.name, .initialized "java/lang/Math", .code Lib.Math.min.name Lib.Math.min.code 2 (some .int), .methodLink RX1 22 Lib.Math.max.name, .static Lib.Math.max.name, .code Lib.Math.max.name Lib.Math.max.code 2 (some .int)] ++ wsX10)
def wsX2_keep : List Cond := .code yX2_keep cX2_keep 4 none :: ([.fieldLink RX2 15 "Ghostracer$Ride" "ticks" "I", .fieldLink RX2 9 "Ghostracer$Lap" "inputs" "[C", .fieldLink RX2 21 "Ghostracer$Lap" "ticks" "I", .fieldLink RX2 22 "Ghostracer$Ride" "time" "I", .fieldLink RX2 25 "Ghostracer$Lap" "time" "I", .fieldLink RX2 26 "Ghostracer$Lap" "stands" "Z"] ++ wsX30 ++ wsX20)
def wsX3_init : List Cond := .code yX3_init cX3_init 1 none :: ([.methodLink RX3 1 objectInit, .instanceMethod objectInit, .code objectInit ⟨#[0xb1]⟩ 1 none])
def wsX3_finish : List Cond := .code yX3_finish cX3_finish 3 none :: ([.fieldLink RX3 22 "Ghostracer$Ride" "isOver" "Z", .fieldLink RX3 13 "Ghostracer$Ride" "speed" "I", .fieldLink RX3 16 "Ghostracer$Ride" "ticks" "I", .fieldLink RX3 19 "Ghostracer$Ride" "time" "I"] ++ wsX30)
def wsX5_limitOf : List Cond := .code yX5_limitOf cX5_limitOf 3 (some .int) :: ([.fieldLink RX5 18 "Ghostracer$Track" "stretches" "I", .fieldLink RX5 9 "Ghostracer$Track" "ends" "[I", .fieldLink RX5 15 "Ghostracer$Track" "limits" "[I"] ++ wsX50)
def wsX3_move_r1 : List Cond := [Cond.fieldLink RX3 16 "Ghostracer$Ride" "ticks" "I", Cond.fieldLink RX3 13 "Ghostracer$Ride" "speed" "I", Cond.fieldLink RX3 7 "Ghostracer$Ride" "place" "I", Cond.fieldLink RX3 36 "Ghostracer$Track" "length" "I", Cond.fieldLink RX3 49 "Ghostracer$Car" "grip" "I", Cond.methodLink RX3 30 yX1_speedAfter, Cond.instanceMethod yX1_speedAfter, Cond.selects RX1 yX1_speedAfter yX1_speedAfter, Cond.initialized RX1, Cond.code yX1_speedAfter cX1_speedAfter 3 (some .int), Cond.fieldLink RX1 7 "Ghostracer$Car" "top" "I", Cond.fieldLink RX1 13 "Ghostracer$Car" "pull" "I", Cond.methodLink RX1 16 Lib.Math.min.name, Cond.static Lib.Math.min.name, Cond.initialized "java/lang/Math", Cond.code Lib.Math.min.name Lib.Math.min.code 2 (some .int), Cond.methodLink RX1 22 Lib.Math.max.name, Cond.static Lib.Math.max.name, Cond.code Lib.Math.max.name Lib.Math.max.code 2 (some .int), Cond.methodLink RX3 41 yX3_finish, Cond.instanceMethod yX3_finish, Cond.selects RX3 yX3_finish yX3_finish, Cond.initialized RX3, Cond.code yX3_finish cX3_finish 3 none]
def wsX3_move_r2 : List Cond := [Cond.fieldLink RX3 22 "Ghostracer$Ride" "isOver" "Z", Cond.fieldLink RX3 19 "Ghostracer$Ride" "time" "I", Cond.methodLink RX3 45 yX5_limitOf, Cond.instanceMethod yX5_limitOf, Cond.selects RX5 yX5_limitOf yX5_limitOf, Cond.initialized RX5, Cond.code yX5_limitOf cX5_limitOf 3 (some .int), Cond.fieldLink RX5 18 "Ghostracer$Track" "stretches" "I", Cond.fieldLink RX5 9 "Ghostracer$Track" "ends" "[I", Cond.fieldLink RX5 15 "Ghostracer$Track" "limits" "[I"]
def wsX3_move : List Cond := .code yX3_move cX3_move 4 none :: ((wsX3_move_r1 ++ wsX3_move_r2) ++ wsX30 ++ wsX50 ++ wsX10)
def wsX3_follow_r1 : List Cond := [Cond.fieldLink RX3 7 "Ghostracer$Ride" "place" "I", Cond.fieldLink RX3 13 "Ghostracer$Ride" "speed" "I", Cond.fieldLink RX3 16 "Ghostracer$Ride" "ticks" "I", Cond.fieldLink RX3 19 "Ghostracer$Ride" "time" "I", Cond.fieldLink RX3 22 "Ghostracer$Ride" "isOver" "Z", Cond.methodLink RX3 26 yX3_move, Cond.instanceMethod yX3_move, Cond.selects RX3 yX3_move yX3_move, Cond.initialized RX3, Cond.code yX3_move cX3_move 4 none, Cond.fieldLink RX3 36 "Ghostracer$Track" "length" "I", Cond.fieldLink RX3 49 "Ghostracer$Car" "grip" "I", Cond.methodLink RX3 30 yX1_speedAfter, Cond.instanceMethod yX1_speedAfter, Cond.selects RX1 yX1_speedAfter yX1_speedAfter, Cond.initialized RX1, Cond.code yX1_speedAfter cX1_speedAfter 3 (some .int), Cond.fieldLink RX1 7 "Ghostracer$Car" "top" "I", Cond.fieldLink RX1 13 "Ghostracer$Car" "pull" "I", Cond.methodLink RX1 16 Lib.Math.min.name, Cond.static Lib.Math.min.name, Cond.initialized "java/lang/Math", Cond.code Lib.Math.min.name Lib.Math.min.code 2 (some .int), Cond.methodLink RX1 22 Lib.Math.max.name]
def wsX3_follow_r2 : List Cond := [Cond.static Lib.Math.max.name, Cond.code Lib.Math.max.name Lib.Math.max.code 2 (some .int), Cond.methodLink RX3 41 yX3_finish, Cond.instanceMethod yX3_finish, Cond.selects RX3 yX3_finish yX3_finish, Cond.code yX3_finish cX3_finish 3 none, Cond.methodLink RX3 45 yX5_limitOf, Cond.instanceMethod yX5_limitOf, Cond.selects RX5 yX5_limitOf yX5_limitOf, Cond.initialized RX5, Cond.code yX5_limitOf cX5_limitOf 3 (some .int), Cond.fieldLink RX5 18 "Ghostracer$Track" "stretches" "I", Cond.fieldLink RX5 9 "Ghostracer$Track" "ends" "[I", Cond.fieldLink RX5 15 "Ghostracer$Track" "limits" "[I"]
def wsX3_follow : List Cond := .code yX3_follow cX3_follow 6 none :: ((wsX3_follow_r1 ++ wsX3_follow_r2) ++ wsX30 ++ wsX50 ++ wsX10)
def wsX4_init : List Cond := .code yX4_init cX4_init 1 none :: ([.methodLink RX4 3 objectInit, .instanceMethod objectInit, .code objectInit ⟨#[0xb1]⟩ 1 none, .arrayClass .int, .fieldLink RX4 9 "Ghostracer$Season" "tracks" "[I", .fieldLink RX4 15 "Ghostracer$Season" "open" "I", .fieldLink RX4 19 "Ghostracer$Season" "lapOf" "[I", .fieldLink RX4 22 "Ghostracer$Season" "scores" "[I", .fieldLink RX4 25 "Ghostracer$Season" "points" "[I", .fieldLink RX4 28 "Ghostracer$Season" "won" "[I"] ++ wsX40)
def wsX4_openOn : List Cond := .code yX4_openOn cX4_openOn 2 none :: ([.fieldLink RX4 31 "Ghostracer$Season" "rounds" "I", .fieldLink RX4 9 "Ghostracer$Season" "tracks" "[I", .fieldLink RX4 15 "Ghostracer$Season" "open" "I"] ++ wsX40)
def wsX4_roundOn : List Cond := .code yX4_roundOn cX4_roundOn 2 (some .int) :: ([.fieldLink RX4 15 "Ghostracer$Season" "open" "I", .fieldLink RX4 31 "Ghostracer$Season" "rounds" "I", .fieldLink RX4 9 "Ghostracer$Season" "tracks" "[I"] ++ wsX40)
def wsX4_findLaps : List Cond := .code yX4_findLaps cX4_findLaps 5 none :: ([.fieldLink RX4 19 "Ghostracer$Season" "lapOf" "[I", .fieldLink RX4 34 "Ghostracer$Book" "count" "I", .fieldLink RX4 39 "Ghostracer$Book" "laps" "[LGhostracer$Lap;", .fieldLink RX4 43 "Ghostracer$Lap" "stands" "Z", .fieldLink RX4 49 "Ghostracer$Lap" "round" "I", .fieldLink RX4 52 "Ghostracer$Lap" "driver" "I", .methodLink RX4 55 yX0_isAhead, .instanceMethod yX0_isAhead, .selects RX0 yX0_isAhead yX0_isAhead, .initialized RX0, .code yX0_isAhead cX0_isAhead 5 (some .boolean), .fieldLink RX0 11 "Ghostracer$Book" "laps" "[LGhostracer$Lap;", .methodLink RX0 22 yX0_has, .instanceMethod yX0_has, .selects RX0 yX0_has yX0_has, .code yX0_has cX0_has 2 (some .boolean), .fieldLink RX0 18 "Ghostracer$Book" "count" "I", .methodLink RX0 67 yX2_counted, .instanceMethod yX2_counted, .selects RX2 yX2_counted yX2_counted, .initialized RX2, .code yX2_counted cX2_counted 1 (some .int), .fieldLink RX2 25 "Ghostracer$Lap" "time" "I", .fieldLink RX2 30 "Ghostracer$Lap" "penalty" "I"] ++ wsX40 ++ wsX00 ++ wsX20)
def wsX4_lapsAhead : List Cond := .code yX4_lapsAhead cX4_lapsAhead 5 (some .int) :: ([.fieldLink RX4 19 "Ghostracer$Season" "lapOf" "[I", .methodLink RX4 55 yX0_isAhead, .instanceMethod yX0_isAhead, .selects RX0 yX0_isAhead yX0_isAhead, .initialized RX0, .code yX0_isAhead cX0_isAhead 5 (some .boolean), .fieldLink RX0 11 "Ghostracer$Book" "laps" "[LGhostracer$Lap;", .methodLink RX0 22 yX0_has, .instanceMethod yX0_has, .selects RX0 yX0_has yX0_has, .code yX0_has cX0_has 2 (some .boolean), .fieldLink RX0 18 "Ghostracer$Book" "count" "I", .methodLink RX0 67 yX2_counted, .instanceMethod yX2_counted, .selects RX2 yX2_counted yX2_counted, .initialized RX2, .code yX2_counted cX2_counted 1 (some .int), .fieldLink RX2 25 "Ghostracer$Lap" "time" "I", .fieldLink RX2 30 "Ghostracer$Lap" "penalty" "I"] ++ wsX40 ++ wsX00 ++ wsX20)
def wsX4_score_r1 : List Cond := [Cond.fieldLink RX4 19 "Ghostracer$Season" "lapOf" "[I", Cond.fieldLink RX4 28 "Ghostracer$Season" "won" "[I", Cond.fieldLink RX4 22 "Ghostracer$Season" "scores" "[I", Cond.fieldLink RX4 25 "Ghostracer$Season" "points" "[I", Cond.methodLink RX4 74 yX4_lapsAhead, Cond.instanceMethod yX4_lapsAhead, Cond.selects RX4 yX4_lapsAhead yX4_lapsAhead, Cond.initialized RX4, Cond.code yX4_lapsAhead cX4_lapsAhead 5 (some .int), Cond.methodLink RX4 55 yX0_isAhead, Cond.instanceMethod yX0_isAhead, Cond.selects RX0 yX0_isAhead yX0_isAhead, Cond.initialized RX0, Cond.code yX0_isAhead cX0_isAhead 5 (some .boolean), Cond.fieldLink RX0 11 "Ghostracer$Book" "laps" "[LGhostracer$Lap;", Cond.methodLink RX0 22 yX0_has, Cond.instanceMethod yX0_has, Cond.selects RX0 yX0_has yX0_has, Cond.code yX0_has cX0_has 2 (some .boolean), Cond.fieldLink RX0 18 "Ghostracer$Book" "count" "I", Cond.methodLink RX0 67 yX2_counted, Cond.instanceMethod yX2_counted, Cond.selects RX2 yX2_counted yX2_counted, Cond.initialized RX2]
def wsX4_score_r2 : List Cond := [Cond.code yX2_counted cX2_counted 1 (some .int), Cond.fieldLink RX2 25 "Ghostracer$Lap" "time" "I", Cond.fieldLink RX2 30 "Ghostracer$Lap" "penalty" "I"]
def wsX4_score : List Cond := .code yX4_score cX4_score 6 none :: ((wsX4_score_r1 ++ wsX4_score_r2) ++ wsX40 ++ wsX00 ++ wsX20)
def wsX4_takeLeast : List Cond := .code yX4_takeLeast cX4_takeLeast 5 (some .int) :: ([.fieldLink RX4 31 "Ghostracer$Season" "rounds" "I", .fieldLink RX4 22 "Ghostracer$Season" "scores" "[I", .constant RX4 83 (2147483647)] ++ wsX40)
def wsX4_reckon_r1 : List Cond := [Cond.fieldLink RX4 25 "Ghostracer$Season" "points" "[I", Cond.fieldLink RX4 28 "Ghostracer$Season" "won" "[I", Cond.fieldLink RX4 31 "Ghostracer$Season" "rounds" "I", Cond.fieldLink RX4 67 "Ghostracer$Season" "dropped" "I", Cond.methodLink RX4 59 yX4_findLaps, Cond.instanceMethod yX4_findLaps, Cond.selects RX4 yX4_findLaps yX4_findLaps, Cond.initialized RX4, Cond.code yX4_findLaps cX4_findLaps 5 none, Cond.fieldLink RX4 19 "Ghostracer$Season" "lapOf" "[I", Cond.fieldLink RX4 34 "Ghostracer$Book" "count" "I", Cond.fieldLink RX4 39 "Ghostracer$Book" "laps" "[LGhostracer$Lap;", Cond.fieldLink RX4 43 "Ghostracer$Lap" "stands" "Z", Cond.fieldLink RX4 49 "Ghostracer$Lap" "round" "I", Cond.fieldLink RX4 52 "Ghostracer$Lap" "driver" "I", Cond.methodLink RX4 55 yX0_isAhead, Cond.instanceMethod yX0_isAhead, Cond.selects RX0 yX0_isAhead yX0_isAhead, Cond.initialized RX0, Cond.code yX0_isAhead cX0_isAhead 5 (some .boolean), Cond.fieldLink RX0 11 "Ghostracer$Book" "laps" "[LGhostracer$Lap;", Cond.methodLink RX0 22 yX0_has, Cond.instanceMethod yX0_has, Cond.selects RX0 yX0_has yX0_has]
def wsX4_reckon_r2 : List Cond := [Cond.code yX0_has cX0_has 2 (some .boolean), Cond.fieldLink RX0 18 "Ghostracer$Book" "count" "I", Cond.methodLink RX0 67 yX2_counted, Cond.instanceMethod yX2_counted, Cond.selects RX2 yX2_counted yX2_counted, Cond.initialized RX2, Cond.code yX2_counted cX2_counted 1 (some .int), Cond.fieldLink RX2 25 "Ghostracer$Lap" "time" "I", Cond.fieldLink RX2 30 "Ghostracer$Lap" "penalty" "I", Cond.methodLink RX4 63 yX4_score, Cond.instanceMethod yX4_score, Cond.selects RX4 yX4_score yX4_score, Cond.code yX4_score cX4_score 6 none, Cond.fieldLink RX4 22 "Ghostracer$Season" "scores" "[I", Cond.methodLink RX4 74 yX4_lapsAhead, Cond.instanceMethod yX4_lapsAhead, Cond.selects RX4 yX4_lapsAhead yX4_lapsAhead, Cond.code yX4_lapsAhead cX4_lapsAhead 5 (some .int), Cond.methodLink RX4 70 yX4_takeLeast, Cond.instanceMethod yX4_takeLeast, Cond.selects RX4 yX4_takeLeast yX4_takeLeast, Cond.code yX4_takeLeast cX4_takeLeast 5 (some .int), Cond.constant RX4 83 (2147483647)]
def wsX4_reckon : List Cond := .code yX4_reckon cX4_reckon 4 none :: ((wsX4_reckon_r1 ++ wsX4_reckon_r2) ++ wsX40 ++ wsX00 ++ wsX20)
def wsX4_isAheadInSeason : List Cond := .code yX4_isAheadInSeason cX4_isAheadInSeason 3 (some .boolean) :: ([.fieldLink RX4 25 "Ghostracer$Season" "points" "[I", .fieldLink RX4 28 "Ghostracer$Season" "won" "[I"] ++ wsX40)
def wsX4_driverBehind : List Cond := .code yX4_driverBehind cX4_driverBehind 6 (some .int) :: ([.methodLink RX4 84 yX4_isAheadInSeason, .instanceMethod yX4_isAheadInSeason, .selects RX4 yX4_isAheadInSeason yX4_isAheadInSeason, .initialized RX4, .code yX4_isAheadInSeason cX4_isAheadInSeason 3 (some .boolean), .fieldLink RX4 25 "Ghostracer$Season" "points" "[I", .fieldLink RX4 28 "Ghostracer$Season" "won" "[I"] ++ wsX40)
def wsX5_init : List Cond := .code yX5_init cX5_init 1 none :: ([.methodLink RX5 3 objectInit, .instanceMethod objectInit, .code objectInit ⟨#[0xb1]⟩ 1 none, .arrayClass .int, .fieldLink RX5 9 "Ghostracer$Track" "ends" "[I", .fieldLink RX5 15 "Ghostracer$Track" "limits" "[I"] ++ wsX50)
def wsX5_append : List Cond := .code yX5_append cX5_append 3 none :: ([.fieldLink RX5 18 "Ghostracer$Track" "stretches" "I", .fieldLink RX5 22 "Ghostracer$Track" "length" "I", .fieldLink RX5 9 "Ghostracer$Track" "ends" "[I", .fieldLink RX5 15 "Ghostracer$Track" "limits" "[I"] ++ wsX50)
def wsX6_init_r1 : List Cond := [Cond.methodLink RX6 1 objectInit, Cond.instanceMethod objectInit, Cond.code objectInit ⟨#[0xb1]⟩ 1 none, Cond.classLink RX6 9 RX5, Cond.fieldLink RX6 11 "Ghostracer" "tracks" "[LGhostracer$Track;", Cond.classLink RX6 15 RX1, Cond.fieldLink RX6 17 "Ghostracer" "cars" "[LGhostracer$Car;", Cond.arrayClass .char, Cond.fieldLink RX6 21 "Ghostracer" "typed" "[C", Cond.classLink RX6 25 RX3, Cond.instantiable RX3 5, Cond.initialized RX3, Cond.fieldLink RX6 28 "Ghostracer" "ride" "LGhostracer$Ride;", Cond.classLink RX6 32 RX0, Cond.instantiable RX0 2, Cond.initialized RX0, Cond.fieldLink RX6 35 "Ghostracer" "book" "LGhostracer$Book;", Cond.classLink RX6 39 RX4, Cond.instantiable RX4 8, Cond.initialized RX4, Cond.fieldLink RX6 42 "Ghostracer" "season" "LGhostracer$Season;", Cond.instantiable RX5 5, Cond.initialized RX5, Cond.instantiable RX1 3]
def wsX6_init_r2 : List Cond := [Cond.initialized RX1, Cond.instanceMethod yX3_init, Cond.code yX3_init cX3_init 1 none, Cond.methodLink RX3 1 objectInit, Cond.methodLink RX6 34 yX0_init, Cond.instanceMethod yX0_init, Cond.code yX0_init cX0_init 2 none, Cond.methodLink RX0 3 objectInit, Cond.classLink RX0 9 RX2, Cond.fieldLink RX0 11 "Ghostracer$Book" "laps" "[LGhostracer$Lap;", Cond.instantiable RX2 13, Cond.initialized RX2, Cond.instanceMethod yX2_init, Cond.code yX2_init cX2_init 1 none, Cond.methodLink RX2 3 objectInit, Cond.fieldLink RX2 9 "Ghostracer$Lap" "inputs" "[C", Cond.instanceMethod yX4_init, Cond.code yX4_init cX4_init 1 none, Cond.methodLink RX4 3 objectInit, Cond.arrayClass .int, Cond.fieldLink RX4 9 "Ghostracer$Season" "tracks" "[I", Cond.fieldLink RX4 15 "Ghostracer$Season" "open" "I", Cond.fieldLink RX4 19 "Ghostracer$Season" "lapOf" "[I", Cond.fieldLink RX4 22 "Ghostracer$Season" "scores" "[I"]
def wsX6_init_r3 : List Cond := [Cond.fieldLink RX4 25 "Ghostracer$Season" "points" "[I", Cond.fieldLink RX4 28 "Ghostracer$Season" "won" "[I", Cond.instanceMethod yX5_init, Cond.code yX5_init cX5_init 1 none, Cond.methodLink RX5 3 objectInit, Cond.fieldLink RX5 9 "Ghostracer$Track" "ends" "[I", Cond.fieldLink RX5 15 "Ghostracer$Track" "limits" "[I", Cond.instanceMethod yX1_init, Cond.code yX1_init cX1_init 1 none, Cond.methodLink RX1 1 objectInit]
def wsX6_init : List Cond := .code yX6_init cX6_init 2 none :: ((wsX6_init_r1 ++ (wsX6_init_r2 ++ wsX6_init_r3)) ++ wsX60 ++ wsX30 ++ wsX00 ++ wsX40 ++ wsX50 ++ wsX10 ++ wsX20)
def wsX6_track : List Cond := .code yX6_track cX6_track 1 (some .int) :: ([.classLink RX6 52 "java/lang/IllegalStateException", .initialized "java/lang/IllegalStateException", .fieldLink RX6 48 "Ghostracer" "trackCount" "I"] ++ wsX60 ++ (vx_atS RX6 56 "java/lang/IllegalStateException" ["java/lang/RuntimeException", "java/lang/Exception"]).filter goodWord)
def wsX6_trackNumbered : List Cond := .code yX6_trackNumbered cX6_trackNumbered 2 (some (.object "Ghostracer$Track")) :: ([.classLink RX6 289 "java/lang/IndexOutOfBoundsException", .initialized "java/lang/IndexOutOfBoundsException", .fieldLink RX6 48 "Ghostracer" "trackCount" "I", .fieldLink RX6 11 "Ghostracer" "tracks" "[LGhostracer$Track;"] ++ wsX60 ++ (vx_atS RX6 293 "java/lang/IndexOutOfBoundsException" ["java/lang/RuntimeException", "java/lang/Exception"]).filter goodWord)
def wsX6_isWithin : List Cond := .code yX6_isWithin cX6_isWithin 3 (some .boolean) :: ([])
def wsX6_stretch_r1 : List Cond := [Cond.classLink RX6 67 "java/lang/IllegalArgumentException", Cond.initialized "java/lang/IllegalArgumentException", Cond.classLink RX6 76 "java/lang/UnsupportedOperationException", Cond.initialized "java/lang/UnsupportedOperationException", Cond.classLink RX6 52 "java/lang/IllegalStateException", Cond.initialized "java/lang/IllegalStateException", Cond.fieldLink RX6 72 "Ghostracer$Track" "isDriven" "Z", Cond.fieldLink RX6 81 "Ghostracer$Track" "stretches" "I", Cond.fieldLink RX6 90 "Ghostracer$Track" "length" "I", Cond.methodLink RX6 59 yX6_trackNumbered, Cond.instanceMethod yX6_trackNumbered, Cond.selects RX6 yX6_trackNumbered yX6_trackNumbered, Cond.initialized RX6, Cond.code yX6_trackNumbered cX6_trackNumbered 2 (some (.object "Ghostracer$Track")), Cond.classLink RX6 289 "java/lang/IndexOutOfBoundsException", Cond.initialized "java/lang/IndexOutOfBoundsException", Cond.fieldLink RX6 48 "Ghostracer" "trackCount" "I", Cond.fieldLink RX6 11 "Ghostracer" "tracks" "[LGhostracer$Track;", Cond.methodLink RX6 63 yX6_isWithin, Cond.static yX6_isWithin, Cond.code yX6_isWithin cX6_isWithin 3 (some .boolean), Cond.methodLink RX6 86 yX5_append, Cond.instanceMethod yX5_append, Cond.selects RX5 yX5_append yX5_append]
def wsX6_stretch_r2 : List Cond := [Cond.initialized RX5, Cond.code yX5_append cX5_append 3 none, Cond.fieldLink RX5 18 "Ghostracer$Track" "stretches" "I", Cond.fieldLink RX5 22 "Ghostracer$Track" "length" "I", Cond.fieldLink RX5 9 "Ghostracer$Track" "ends" "[I", Cond.fieldLink RX5 15 "Ghostracer$Track" "limits" "[I"]
def wsX6_stretch : List Cond := .code yX6_stretch cX6_stretch 5 (some .int) :: ((wsX6_stretch_r1 ++ wsX6_stretch_r2) ++ wsX50 ++ wsX60 ++ (vx_atS RX6 71 "java/lang/IllegalArgumentException" ["java/lang/RuntimeException", "java/lang/Exception"]).filter goodWord ++ (vx_atS RX6 80 "java/lang/UnsupportedOperationException" ["java/lang/RuntimeException", "java/lang/Exception"]).filter goodWord ++ (vx_atS RX6 56 "java/lang/IllegalStateException" ["java/lang/RuntimeException", "java/lang/Exception"]).filter goodWord ++ (vx_atS RX6 293 "java/lang/IndexOutOfBoundsException" ["java/lang/RuntimeException", "java/lang/Exception"]).filter goodWord)
def wsX6_car : List Cond := .code yX6_car cX6_car 5 (some .int) :: ([.classLink RX6 67 "java/lang/IllegalArgumentException", .initialized "java/lang/IllegalArgumentException", .classLink RX6 52 "java/lang/IllegalStateException", .initialized "java/lang/IllegalStateException", .fieldLink RX6 95 "Ghostracer" "carCount" "I", .fieldLink RX6 17 "Ghostracer" "cars" "[LGhostracer$Car;", .fieldLink RX6 100 "Ghostracer$Car" "top" "I", .fieldLink RX6 103 "Ghostracer$Car" "pull" "I", .fieldLink RX6 106 "Ghostracer$Car" "grip" "I", .methodLink RX6 63 yX6_isWithin, .static yX6_isWithin, .initialized RX6, .code yX6_isWithin cX6_isWithin 3 (some .boolean)] ++ wsX60 ++ wsX10 ++ (vx_atS RX6 71 "java/lang/IllegalArgumentException" ["java/lang/RuntimeException", "java/lang/Exception"]).filter goodWord ++ (vx_atS RX6 56 "java/lang/IllegalStateException" ["java/lang/RuntimeException", "java/lang/Exception"]).filter goodWord)
def wsX6_lengthOf : List Cond := .code yX6_lengthOf cX6_lengthOf 2 (some .int) :: ([.fieldLink RX6 90 "Ghostracer$Track" "length" "I", .methodLink RX6 59 yX6_trackNumbered, .instanceMethod yX6_trackNumbered, .selects RX6 yX6_trackNumbered yX6_trackNumbered, .initialized RX6, .code yX6_trackNumbered cX6_trackNumbered 2 (some (.object "Ghostracer$Track")), .classLink RX6 289 "java/lang/IndexOutOfBoundsException", .initialized "java/lang/IndexOutOfBoundsException", .fieldLink RX6 48 "Ghostracer" "trackCount" "I", .fieldLink RX6 11 "Ghostracer" "tracks" "[LGhostracer$Track;"] ++ wsX50 ++ wsX60 ++ (vx_atS RX6 293 "java/lang/IndexOutOfBoundsException" ["java/lang/RuntimeException", "java/lang/Exception"]).filter goodWord)
def wsX6_limitAt : List Cond := .code yX6_limitAt cX6_limitAt 4 (some .int) :: ([.classLink RX6 109 "java/util/NoSuchElementException", .initialized "java/util/NoSuchElementException", .fieldLink RX6 90 "Ghostracer$Track" "length" "I", .methodLink RX6 59 yX6_trackNumbered, .instanceMethod yX6_trackNumbered, .selects RX6 yX6_trackNumbered yX6_trackNumbered, .initialized RX6, .code yX6_trackNumbered cX6_trackNumbered 2 (some (.object "Ghostracer$Track")), .classLink RX6 289 "java/lang/IndexOutOfBoundsException", .initialized "java/lang/IndexOutOfBoundsException", .fieldLink RX6 48 "Ghostracer" "trackCount" "I", .fieldLink RX6 11 "Ghostracer" "tracks" "[LGhostracer$Track;", .methodLink RX6 114 yX5_limitOf, .instanceMethod yX5_limitOf, .selects RX5 yX5_limitOf yX5_limitOf, .initialized RX5, .code yX5_limitOf cX5_limitOf 3 (some .int), .fieldLink RX5 18 "Ghostracer$Track" "stretches" "I", .fieldLink RX5 9 "Ghostracer$Track" "ends" "[I", .fieldLink RX5 15 "Ghostracer$Track" "limits" "[I"] ++ wsX50 ++ wsX60 ++ (vx_atS RX6 113 "java/util/NoSuchElementException" ["java/lang/RuntimeException", "java/lang/Exception"]).filter goodWord ++ (vx_atS RX6 293 "java/lang/IndexOutOfBoundsException" ["java/lang/RuntimeException", "java/lang/Exception"]).filter goodWord)
def wsX6_type : List Cond := .code yX6_type cX6_type 6 (some .int) :: ([.classLink RX6 67 "java/lang/IllegalArgumentException", .initialized "java/lang/IllegalArgumentException", .classLink RX6 52 "java/lang/IllegalStateException", .initialized "java/lang/IllegalStateException", .fieldLink RX6 120 "Ghostracer" "typedCount" "I", .fieldLink RX6 21 "Ghostracer" "typed" "[C", .methodLink RX6 63 yX6_isWithin, .static yX6_isWithin, .initialized RX6, .code yX6_isWithin cX6_isWithin 3 (some .boolean)] ++ wsX60 ++ (vx_atS RX6 71 "java/lang/IllegalArgumentException" ["java/lang/RuntimeException", "java/lang/Exception"]).filter goodWord ++ (vx_atS RX6 56 "java/lang/IllegalStateException" ["java/lang/RuntimeException", "java/lang/Exception"]).filter goodWord)
def wsX6_wipe : List Cond := .code yX6_wipe cX6_wipe 2 (some .int) :: ([.fieldLink RX6 120 "Ghostracer" "typedCount" "I"] ++ wsX60)
def wsX6_requireDriver : List Cond := .code yX6_requireDriver cX6_requireDriver 2 none :: ([.classLink RX6 289 "java/lang/IndexOutOfBoundsException", .initialized "java/lang/IndexOutOfBoundsException"] ++ (vx_atS RX6 293 "java/lang/IndexOutOfBoundsException" ["java/lang/RuntimeException", "java/lang/Exception"]).filter goodWord)
def wsX6_carNumbered : List Cond := .code yX6_carNumbered cX6_carNumbered 2 (some (.object "Ghostracer$Car")) :: ([.classLink RX6 289 "java/lang/IndexOutOfBoundsException", .initialized "java/lang/IndexOutOfBoundsException", .fieldLink RX6 95 "Ghostracer" "carCount" "I", .fieldLink RX6 17 "Ghostracer" "cars" "[LGhostracer$Car;"] ++ wsX60 ++ (vx_atS RX6 293 "java/lang/IndexOutOfBoundsException" ["java/lang/RuntimeException", "java/lang/Exception"]).filter goodWord)
def wsX6_rideTyped_r1 : List Cond := [Cond.classLink RX6 76 "java/lang/UnsupportedOperationException", Cond.initialized "java/lang/UnsupportedOperationException", Cond.fieldLink RX6 81 "Ghostracer$Track" "stretches" "I", Cond.fieldLink RX6 28 "Ghostracer" "ride" "LGhostracer$Ride;", Cond.fieldLink RX6 21 "Ghostracer" "typed" "[C", Cond.fieldLink RX6 120 "Ghostracer" "typedCount" "I", Cond.fieldLink RX6 189 "Ghostracer$Ride" "isOver" "Z", Cond.methodLink RX6 185 yX3_follow, Cond.instanceMethod yX3_follow, Cond.selects RX3 yX3_follow yX3_follow, Cond.initialized RX3, Cond.code yX3_follow cX3_follow 6 none, Cond.fieldLink RX3 7 "Ghostracer$Ride" "place" "I", Cond.fieldLink RX3 13 "Ghostracer$Ride" "speed" "I", Cond.fieldLink RX3 16 "Ghostracer$Ride" "ticks" "I", Cond.fieldLink RX3 19 "Ghostracer$Ride" "time" "I", Cond.fieldLink RX3 22 "Ghostracer$Ride" "isOver" "Z", Cond.methodLink RX3 26 yX3_move, Cond.instanceMethod yX3_move, Cond.selects RX3 yX3_move yX3_move, Cond.code yX3_move cX3_move 4 none, Cond.fieldLink RX3 36 "Ghostracer$Track" "length" "I", Cond.fieldLink RX3 49 "Ghostracer$Car" "grip" "I", Cond.methodLink RX3 30 yX1_speedAfter]
def wsX6_rideTyped_r2 : List Cond := [Cond.instanceMethod yX1_speedAfter, Cond.selects RX1 yX1_speedAfter yX1_speedAfter, Cond.initialized RX1, Cond.code yX1_speedAfter cX1_speedAfter 3 (some .int), Cond.fieldLink RX1 7 "Ghostracer$Car" "top" "I", Cond.fieldLink RX1 13 "Ghostracer$Car" "pull" "I", Cond.methodLink RX1 16 Lib.Math.min.name, Cond.static Lib.Math.min.name, Cond.initialized "java/lang/Math", Cond.code Lib.Math.min.name Lib.Math.min.code 2 (some .int), Cond.methodLink RX1 22 Lib.Math.max.name, Cond.static Lib.Math.max.name, Cond.code Lib.Math.max.name Lib.Math.max.code 2 (some .int), Cond.methodLink RX3 41 yX3_finish, Cond.instanceMethod yX3_finish, Cond.selects RX3 yX3_finish yX3_finish, Cond.code yX3_finish cX3_finish 3 none, Cond.methodLink RX3 45 yX5_limitOf, Cond.instanceMethod yX5_limitOf, Cond.selects RX5 yX5_limitOf yX5_limitOf, Cond.initialized RX5, Cond.code yX5_limitOf cX5_limitOf 3 (some .int), Cond.fieldLink RX5 18 "Ghostracer$Track" "stretches" "I", Cond.fieldLink RX5 9 "Ghostracer$Track" "ends" "[I"]
def wsX6_rideTyped_r3 : List Cond := [Cond.fieldLink RX5 15 "Ghostracer$Track" "limits" "[I"]
def wsX6_rideTyped : List Cond := .code yX6_rideTyped cX6_rideTyped 3 none :: ((wsX6_rideTyped_r1 ++ (wsX6_rideTyped_r2 ++ wsX6_rideTyped_r3)) ++ wsX50 ++ wsX60 ++ wsX30 ++ wsX10 ++ (vx_atS RX6 80 "java/lang/UnsupportedOperationException" ["java/lang/RuntimeException", "java/lang/Exception"]).filter goodWord)
def wsX6_drive_r1 : List Cond := [Cond.classLink RX6 109 "java/util/NoSuchElementException", Cond.initialized "java/util/NoSuchElementException", Cond.classLink RX6 52 "java/lang/IllegalStateException", Cond.initialized "java/lang/IllegalStateException", Cond.fieldLink RX6 35 "Ghostracer" "book" "LGhostracer$Book;", Cond.fieldLink RX6 143 "Ghostracer$Book" "count" "I", Cond.fieldLink RX6 148 "Ghostracer$Book" "laps" "[LGhostracer$Lap;", Cond.fieldLink RX6 152 "Ghostracer$Lap" "driver" "I", Cond.fieldLink RX6 157 "Ghostracer$Lap" "track" "I", Cond.fieldLink RX6 160 "Ghostracer$Lap" "car" "I", Cond.fieldLink RX6 163 "Ghostracer$Lap" "ghost" "I", Cond.fieldLink RX6 42 "Ghostracer" "season" "LGhostracer$Season;", Cond.fieldLink RX6 169 "Ghostracer$Lap" "round" "I", Cond.fieldLink RX6 28 "Ghostracer" "ride" "LGhostracer$Ride;", Cond.fieldLink RX6 21 "Ghostracer" "typed" "[C", Cond.fieldLink RX6 72 "Ghostracer$Track" "isDriven" "Z", Cond.fieldLink RX6 120 "Ghostracer" "typedCount" "I", Cond.methodLink RX6 125 yX6_requireDriver, Cond.instanceMethod yX6_requireDriver, Cond.selects RX6 yX6_requireDriver yX6_requireDriver, Cond.initialized RX6, Cond.code yX6_requireDriver cX6_requireDriver 2 none, Cond.classLink RX6 289 "java/lang/IndexOutOfBoundsException", Cond.initialized "java/lang/IndexOutOfBoundsException"]
def wsX6_drive_r2 : List Cond := [Cond.methodLink RX6 59 yX6_trackNumbered, Cond.instanceMethod yX6_trackNumbered, Cond.selects RX6 yX6_trackNumbered yX6_trackNumbered, Cond.code yX6_trackNumbered cX6_trackNumbered 2 (some (.object "Ghostracer$Track")), Cond.fieldLink RX6 48 "Ghostracer" "trackCount" "I", Cond.fieldLink RX6 11 "Ghostracer" "tracks" "[LGhostracer$Track;", Cond.methodLink RX6 129 yX6_carNumbered, Cond.instanceMethod yX6_carNumbered, Cond.selects RX6 yX6_carNumbered yX6_carNumbered, Cond.code yX6_carNumbered cX6_carNumbered 2 (some (.object "Ghostracer$Car")), Cond.fieldLink RX6 95 "Ghostracer" "carCount" "I", Cond.fieldLink RX6 17 "Ghostracer" "cars" "[LGhostracer$Car;", Cond.methodLink RX6 133 yX0_hasGhost, Cond.instanceMethod yX0_hasGhost, Cond.selects RX0 yX0_hasGhost yX0_hasGhost, Cond.initialized RX0, Cond.code yX0_hasGhost cX0_hasGhost 3 (some .boolean), Cond.fieldLink RX0 11 "Ghostracer$Book" "laps" "[LGhostracer$Lap;", Cond.fieldLink RX0 26 "Ghostracer$Lap" "track" "I", Cond.fieldLink RX0 29 "Ghostracer$Lap" "stands" "Z", Cond.methodLink RX0 22 yX0_has, Cond.instanceMethod yX0_has, Cond.selects RX0 yX0_has yX0_has, Cond.code yX0_has cX0_has 2 (some .boolean)]
def wsX6_drive_r3 : List Cond := [Cond.fieldLink RX0 18 "Ghostracer$Book" "count" "I", Cond.methodLink RX6 139 yX6_rideTyped, Cond.instanceMethod yX6_rideTyped, Cond.selects RX6 yX6_rideTyped yX6_rideTyped, Cond.code yX6_rideTyped cX6_rideTyped 3 none, Cond.classLink RX6 76 "java/lang/UnsupportedOperationException", Cond.initialized "java/lang/UnsupportedOperationException", Cond.fieldLink RX6 81 "Ghostracer$Track" "stretches" "I", Cond.fieldLink RX6 189 "Ghostracer$Ride" "isOver" "Z", Cond.methodLink RX6 185 yX3_follow, Cond.instanceMethod yX3_follow, Cond.selects RX3 yX3_follow yX3_follow, Cond.initialized RX3, Cond.code yX3_follow cX3_follow 6 none, Cond.fieldLink RX3 7 "Ghostracer$Ride" "place" "I", Cond.fieldLink RX3 13 "Ghostracer$Ride" "speed" "I", Cond.fieldLink RX3 16 "Ghostracer$Ride" "ticks" "I", Cond.fieldLink RX3 19 "Ghostracer$Ride" "time" "I", Cond.fieldLink RX3 22 "Ghostracer$Ride" "isOver" "Z", Cond.methodLink RX3 26 yX3_move, Cond.instanceMethod yX3_move, Cond.selects RX3 yX3_move yX3_move, Cond.code yX3_move cX3_move 4 none, Cond.fieldLink RX3 36 "Ghostracer$Track" "length" "I"]
def wsX6_drive_r4 : List Cond := [Cond.fieldLink RX3 49 "Ghostracer$Car" "grip" "I", Cond.methodLink RX3 30 yX1_speedAfter, Cond.instanceMethod yX1_speedAfter, Cond.selects RX1 yX1_speedAfter yX1_speedAfter, Cond.initialized RX1, Cond.code yX1_speedAfter cX1_speedAfter 3 (some .int), Cond.fieldLink RX1 7 "Ghostracer$Car" "top" "I", Cond.fieldLink RX1 13 "Ghostracer$Car" "pull" "I", Cond.methodLink RX1 16 Lib.Math.min.name, Cond.static Lib.Math.min.name, Cond.initialized "java/lang/Math", Cond.code Lib.Math.min.name Lib.Math.min.code 2 (some .int), Cond.methodLink RX1 22 Lib.Math.max.name, Cond.static Lib.Math.max.name, Cond.code Lib.Math.max.name Lib.Math.max.code 2 (some .int), Cond.methodLink RX3 41 yX3_finish, Cond.instanceMethod yX3_finish, Cond.selects RX3 yX3_finish yX3_finish, Cond.code yX3_finish cX3_finish 3 none, Cond.methodLink RX3 45 yX5_limitOf, Cond.instanceMethod yX5_limitOf, Cond.selects RX5 yX5_limitOf yX5_limitOf, Cond.initialized RX5, Cond.code yX5_limitOf cX5_limitOf 3 (some .int)]
def wsX6_drive_r5 : List Cond := [Cond.fieldLink RX5 18 "Ghostracer$Track" "stretches" "I", Cond.fieldLink RX5 9 "Ghostracer$Track" "ends" "[I", Cond.fieldLink RX5 15 "Ghostracer$Track" "limits" "[I", Cond.methodLink RX6 166 yX4_roundOn, Cond.instanceMethod yX4_roundOn, Cond.selects RX4 yX4_roundOn yX4_roundOn, Cond.initialized RX4, Cond.code yX4_roundOn cX4_roundOn 2 (some .int), Cond.fieldLink RX4 15 "Ghostracer$Season" "open" "I", Cond.fieldLink RX4 31 "Ghostracer$Season" "rounds" "I", Cond.fieldLink RX4 9 "Ghostracer$Season" "tracks" "[I", Cond.methodLink RX6 172 yX2_keep, Cond.instanceMethod yX2_keep, Cond.selects RX2 yX2_keep yX2_keep, Cond.initialized RX2, Cond.code yX2_keep cX2_keep 4 none, Cond.fieldLink RX2 15 "Ghostracer$Ride" "ticks" "I", Cond.fieldLink RX2 9 "Ghostracer$Lap" "inputs" "[C", Cond.fieldLink RX2 21 "Ghostracer$Lap" "ticks" "I", Cond.fieldLink RX2 22 "Ghostracer$Ride" "time" "I", Cond.fieldLink RX2 25 "Ghostracer$Lap" "time" "I", Cond.fieldLink RX2 26 "Ghostracer$Lap" "stands" "Z", Cond.methodLink RX6 176 yX0_add, Cond.instanceMethod yX0_add]
def wsX6_drive_r6 : List Cond := [Cond.selects RX0 yX0_add yX0_add, Cond.code yX0_add cX0_add 3 none, Cond.fieldLink RX0 33 "Ghostracer$Lap" "ghost" "I", Cond.fieldLink RX0 36 "Ghostracer$Lap" "depth" "I", Cond.methodLink RX0 39 yX0_store, Cond.instanceMethod yX0_store, Cond.selects RX0 yX0_store yX0_store, Cond.code yX0_store cX0_store 3 none, Cond.fieldLink RX0 47 "Ghostracer$Lap" "base" "I", Cond.fieldLink RX0 54 "Ghostracer$Lap" "ticks" "I", Cond.fieldLink RX0 57 "Ghostracer$Lap" "parts" "I", Cond.methodLink RX0 50 yX2_inputsUnlike, Cond.instanceMethod yX2_inputsUnlike, Cond.selects RX2 yX2_inputsUnlike yX2_inputsUnlike, Cond.code yX2_inputsUnlike cX2_inputsUnlike 4 (some .int), Cond.methodLink RX0 43 yX0_settleDepth, Cond.instanceMethod yX0_settleDepth, Cond.selects RX0 yX0_settleDepth yX0_settleDepth, Cond.code yX0_settleDepth cX0_settleDepth 2 none]
def wsX6_drive : List Cond := .code yX6_drive cX6_drive 8 (some .int) :: ((wsX6_drive_r1 ++ (wsX6_drive_r2 ++ (wsX6_drive_r3 ++ (wsX6_drive_r4 ++ (wsX6_drive_r5 ++ wsX6_drive_r6))))) ++ wsX60 ++ wsX00 ++ wsX20 ++ wsX50 ++ wsX30 ++ wsX10 ++ wsX40 ++ (vx_atS RX6 113 "java/util/NoSuchElementException" ["java/lang/RuntimeException", "java/lang/Exception"]).filter goodWord ++ (vx_atS RX6 56 "java/lang/IllegalStateException" ["java/lang/RuntimeException", "java/lang/Exception"]).filter goodWord ++ (vx_atS RX6 293 "java/lang/IndexOutOfBoundsException" ["java/lang/RuntimeException", "java/lang/Exception"]).filter goodWord ++ (vx_atS RX6 80 "java/lang/UnsupportedOperationException" ["java/lang/RuntimeException", "java/lang/Exception"]).filter goodWord)
def wsX6_tryOut_r1 : List Cond := [Cond.fieldLink RX6 28 "Ghostracer" "ride" "LGhostracer$Ride;", Cond.fieldLink RX6 180 "Ghostracer$Ride" "time" "I", Cond.methodLink RX6 59 yX6_trackNumbered, Cond.instanceMethod yX6_trackNumbered, Cond.selects RX6 yX6_trackNumbered yX6_trackNumbered, Cond.initialized RX6, Cond.code yX6_trackNumbered cX6_trackNumbered 2 (some (.object "Ghostracer$Track")), Cond.classLink RX6 289 "java/lang/IndexOutOfBoundsException", Cond.initialized "java/lang/IndexOutOfBoundsException", Cond.fieldLink RX6 48 "Ghostracer" "trackCount" "I", Cond.fieldLink RX6 11 "Ghostracer" "tracks" "[LGhostracer$Track;", Cond.methodLink RX6 129 yX6_carNumbered, Cond.instanceMethod yX6_carNumbered, Cond.selects RX6 yX6_carNumbered yX6_carNumbered, Cond.code yX6_carNumbered cX6_carNumbered 2 (some (.object "Ghostracer$Car")), Cond.fieldLink RX6 95 "Ghostracer" "carCount" "I", Cond.fieldLink RX6 17 "Ghostracer" "cars" "[LGhostracer$Car;", Cond.methodLink RX6 139 yX6_rideTyped, Cond.instanceMethod yX6_rideTyped, Cond.selects RX6 yX6_rideTyped yX6_rideTyped, Cond.code yX6_rideTyped cX6_rideTyped 3 none, Cond.classLink RX6 76 "java/lang/UnsupportedOperationException", Cond.initialized "java/lang/UnsupportedOperationException", Cond.fieldLink RX6 81 "Ghostracer$Track" "stretches" "I"]
def wsX6_tryOut_r2 : List Cond := [Cond.fieldLink RX6 21 "Ghostracer" "typed" "[C", Cond.fieldLink RX6 120 "Ghostracer" "typedCount" "I", Cond.fieldLink RX6 189 "Ghostracer$Ride" "isOver" "Z", Cond.methodLink RX6 185 yX3_follow, Cond.instanceMethod yX3_follow, Cond.selects RX3 yX3_follow yX3_follow, Cond.initialized RX3, Cond.code yX3_follow cX3_follow 6 none, Cond.fieldLink RX3 7 "Ghostracer$Ride" "place" "I", Cond.fieldLink RX3 13 "Ghostracer$Ride" "speed" "I", Cond.fieldLink RX3 16 "Ghostracer$Ride" "ticks" "I", Cond.fieldLink RX3 19 "Ghostracer$Ride" "time" "I", Cond.fieldLink RX3 22 "Ghostracer$Ride" "isOver" "Z", Cond.methodLink RX3 26 yX3_move, Cond.instanceMethod yX3_move, Cond.selects RX3 yX3_move yX3_move, Cond.code yX3_move cX3_move 4 none, Cond.fieldLink RX3 36 "Ghostracer$Track" "length" "I", Cond.fieldLink RX3 49 "Ghostracer$Car" "grip" "I", Cond.methodLink RX3 30 yX1_speedAfter, Cond.instanceMethod yX1_speedAfter, Cond.selects RX1 yX1_speedAfter yX1_speedAfter, Cond.initialized RX1, Cond.code yX1_speedAfter cX1_speedAfter 3 (some .int)]
def wsX6_tryOut_r3 : List Cond := [Cond.fieldLink RX1 7 "Ghostracer$Car" "top" "I", Cond.fieldLink RX1 13 "Ghostracer$Car" "pull" "I", Cond.methodLink RX1 16 Lib.Math.min.name, Cond.static Lib.Math.min.name, Cond.initialized "java/lang/Math", Cond.code Lib.Math.min.name Lib.Math.min.code 2 (some .int), Cond.methodLink RX1 22 Lib.Math.max.name, Cond.static Lib.Math.max.name, Cond.code Lib.Math.max.name Lib.Math.max.code 2 (some .int), Cond.methodLink RX3 41 yX3_finish, Cond.instanceMethod yX3_finish, Cond.selects RX3 yX3_finish yX3_finish, Cond.code yX3_finish cX3_finish 3 none, Cond.methodLink RX3 45 yX5_limitOf, Cond.instanceMethod yX5_limitOf, Cond.selects RX5 yX5_limitOf yX5_limitOf, Cond.initialized RX5, Cond.code yX5_limitOf cX5_limitOf 3 (some .int), Cond.fieldLink RX5 18 "Ghostracer$Track" "stretches" "I", Cond.fieldLink RX5 9 "Ghostracer$Track" "ends" "[I", Cond.fieldLink RX5 15 "Ghostracer$Track" "limits" "[I"]
def wsX6_tryOut : List Cond := .code yX6_tryOut cX6_tryOut 3 (some .int) :: ((wsX6_tryOut_r1 ++ (wsX6_tryOut_r2 ++ wsX6_tryOut_r3)) ++ wsX60 ++ wsX30 ++ wsX50 ++ wsX10 ++ (vx_atS RX6 293 "java/lang/IndexOutOfBoundsException" ["java/lang/RuntimeException", "java/lang/Exception"]).filter goodWord ++ (vx_atS RX6 80 "java/lang/UnsupportedOperationException" ["java/lang/RuntimeException", "java/lang/Exception"]).filter goodWord)
def wsX6_laps : List Cond := .code yX6_laps cX6_laps 1 (some .int) :: ([.fieldLink RX6 35 "Ghostracer" "book" "LGhostracer$Book;", .fieldLink RX6 143 "Ghostracer$Book" "count" "I"] ++ wsX60 ++ wsX00)
def wsX6_lapNumbered : List Cond := .code yX6_lapNumbered cX6_lapNumbered 2 (some (.object "Ghostracer$Lap")) :: ([.classLink RX6 289 "java/lang/IndexOutOfBoundsException", .initialized "java/lang/IndexOutOfBoundsException", .fieldLink RX6 35 "Ghostracer" "book" "LGhostracer$Book;", .fieldLink RX6 148 "Ghostracer$Book" "laps" "[LGhostracer$Lap;", .methodLink RX6 225 yX0_has, .instanceMethod yX0_has, .selects RX0 yX0_has yX0_has, .initialized RX0, .code yX0_has cX0_has 2 (some .boolean), .fieldLink RX0 18 "Ghostracer$Book" "count" "I"] ++ wsX60 ++ wsX00 ++ (vx_atS RX6 293 "java/lang/IndexOutOfBoundsException" ["java/lang/RuntimeException", "java/lang/Exception"]).filter goodWord)
def wsX6_time : List Cond := .code yX6_time cX6_time 4 (some .int) :: ([.fieldLink RX6 202 "Ghostracer$Lap" "time" "I", .methodLink RX6 194 yX6_lapNumbered, .instanceMethod yX6_lapNumbered, .selects RX6 yX6_lapNumbered yX6_lapNumbered, .initialized RX6, .code yX6_lapNumbered cX6_lapNumbered 2 (some (.object "Ghostracer$Lap")), .classLink RX6 289 "java/lang/IndexOutOfBoundsException", .initialized "java/lang/IndexOutOfBoundsException", .fieldLink RX6 35 "Ghostracer" "book" "LGhostracer$Book;", .fieldLink RX6 148 "Ghostracer$Book" "laps" "[LGhostracer$Lap;", .methodLink RX6 225 yX0_has, .instanceMethod yX0_has, .selects RX0 yX0_has yX0_has, .initialized RX0, .code yX0_has cX0_has 2 (some .boolean), .fieldLink RX0 18 "Ghostracer$Book" "count" "I", .methodLink RX6 198 yX2_counted, .instanceMethod yX2_counted, .selects RX2 yX2_counted yX2_counted, .initialized RX2, .code yX2_counted cX2_counted 1 (some .int), .fieldLink RX2 25 "Ghostracer$Lap" "time" "I", .fieldLink RX2 30 "Ghostracer$Lap" "penalty" "I"] ++ wsX20 ++ wsX60 ++ wsX00 ++ (vx_atS RX6 293 "java/lang/IndexOutOfBoundsException" ["java/lang/RuntimeException", "java/lang/Exception"]).filter goodWord)
def wsX6_ticks : List Cond := .code yX6_ticks cX6_ticks 2 (some .int) :: ([.fieldLink RX6 203 "Ghostracer$Lap" "ticks" "I", .methodLink RX6 194 yX6_lapNumbered, .instanceMethod yX6_lapNumbered, .selects RX6 yX6_lapNumbered yX6_lapNumbered, .initialized RX6, .code yX6_lapNumbered cX6_lapNumbered 2 (some (.object "Ghostracer$Lap")), .classLink RX6 289 "java/lang/IndexOutOfBoundsException", .initialized "java/lang/IndexOutOfBoundsException", .fieldLink RX6 35 "Ghostracer" "book" "LGhostracer$Book;", .fieldLink RX6 148 "Ghostracer$Book" "laps" "[LGhostracer$Lap;", .methodLink RX6 225 yX0_has, .instanceMethod yX0_has, .selects RX0 yX0_has yX0_has, .initialized RX0, .code yX0_has cX0_has 2 (some .boolean), .fieldLink RX0 18 "Ghostracer$Book" "count" "I"] ++ wsX20 ++ wsX60 ++ wsX00 ++ (vx_atS RX6 293 "java/lang/IndexOutOfBoundsException" ["java/lang/RuntimeException", "java/lang/Exception"]).filter goodWord)
def wsX6_inputAt : List Cond := .code yX6_inputAt cX6_inputAt 4 (some .char) :: ([.classLink RX6 109 "java/util/NoSuchElementException", .initialized "java/util/NoSuchElementException", .fieldLink RX6 203 "Ghostracer$Lap" "ticks" "I", .fieldLink RX6 208 "Ghostracer$Lap" "inputs" "[C", .methodLink RX6 194 yX6_lapNumbered, .instanceMethod yX6_lapNumbered, .selects RX6 yX6_lapNumbered yX6_lapNumbered, .initialized RX6, .code yX6_lapNumbered cX6_lapNumbered 2 (some (.object "Ghostracer$Lap")), .classLink RX6 289 "java/lang/IndexOutOfBoundsException", .initialized "java/lang/IndexOutOfBoundsException", .fieldLink RX6 35 "Ghostracer" "book" "LGhostracer$Book;", .fieldLink RX6 148 "Ghostracer$Book" "laps" "[LGhostracer$Lap;", .methodLink RX6 225 yX0_has, .instanceMethod yX0_has, .selects RX0 yX0_has yX0_has, .initialized RX0, .code yX0_has cX0_has 2 (some .boolean), .fieldLink RX0 18 "Ghostracer$Book" "count" "I"] ++ wsX20 ++ wsX60 ++ wsX00 ++ (vx_atS RX6 113 "java/util/NoSuchElementException" ["java/lang/RuntimeException", "java/lang/Exception"]).filter goodWord ++ (vx_atS RX6 293 "java/lang/IndexOutOfBoundsException" ["java/lang/RuntimeException", "java/lang/Exception"]).filter goodWord)
def wsX6_rideAgain_r1 : List Cond := [Cond.fieldLink RX6 28 "Ghostracer" "ride" "LGhostracer$Ride;", Cond.fieldLink RX6 208 "Ghostracer$Lap" "inputs" "[C", Cond.fieldLink RX6 157 "Ghostracer$Lap" "track" "I", Cond.fieldLink RX6 160 "Ghostracer$Lap" "car" "I", Cond.methodLink RX6 59 yX6_trackNumbered, Cond.instanceMethod yX6_trackNumbered, Cond.selects RX6 yX6_trackNumbered yX6_trackNumbered, Cond.initialized RX6, Cond.code yX6_trackNumbered cX6_trackNumbered 2 (some (.object "Ghostracer$Track")), Cond.classLink RX6 289 "java/lang/IndexOutOfBoundsException", Cond.initialized "java/lang/IndexOutOfBoundsException", Cond.fieldLink RX6 48 "Ghostracer" "trackCount" "I", Cond.fieldLink RX6 11 "Ghostracer" "tracks" "[LGhostracer$Track;", Cond.methodLink RX6 129 yX6_carNumbered, Cond.instanceMethod yX6_carNumbered, Cond.selects RX6 yX6_carNumbered yX6_carNumbered, Cond.code yX6_carNumbered cX6_carNumbered 2 (some (.object "Ghostracer$Car")), Cond.fieldLink RX6 95 "Ghostracer" "carCount" "I", Cond.fieldLink RX6 17 "Ghostracer" "cars" "[LGhostracer$Car;", Cond.methodLink RX6 185 yX3_follow, Cond.instanceMethod yX3_follow, Cond.selects RX3 yX3_follow yX3_follow, Cond.initialized RX3, Cond.code yX3_follow cX3_follow 6 none]
def wsX6_rideAgain_r2 : List Cond := [Cond.fieldLink RX3 7 "Ghostracer$Ride" "place" "I", Cond.fieldLink RX3 13 "Ghostracer$Ride" "speed" "I", Cond.fieldLink RX3 16 "Ghostracer$Ride" "ticks" "I", Cond.fieldLink RX3 19 "Ghostracer$Ride" "time" "I", Cond.fieldLink RX3 22 "Ghostracer$Ride" "isOver" "Z", Cond.methodLink RX3 26 yX3_move, Cond.instanceMethod yX3_move, Cond.selects RX3 yX3_move yX3_move, Cond.code yX3_move cX3_move 4 none, Cond.fieldLink RX3 36 "Ghostracer$Track" "length" "I", Cond.fieldLink RX3 49 "Ghostracer$Car" "grip" "I", Cond.methodLink RX3 30 yX1_speedAfter, Cond.instanceMethod yX1_speedAfter, Cond.selects RX1 yX1_speedAfter yX1_speedAfter, Cond.initialized RX1, Cond.code yX1_speedAfter cX1_speedAfter 3 (some .int), Cond.fieldLink RX1 7 "Ghostracer$Car" "top" "I", Cond.fieldLink RX1 13 "Ghostracer$Car" "pull" "I", Cond.methodLink RX1 16 Lib.Math.min.name, Cond.static Lib.Math.min.name, Cond.initialized "java/lang/Math", Cond.code Lib.Math.min.name Lib.Math.min.code 2 (some .int), Cond.methodLink RX1 22 Lib.Math.max.name, Cond.static Lib.Math.max.name]
def wsX6_rideAgain_r3 : List Cond := [Cond.code Lib.Math.max.name Lib.Math.max.code 2 (some .int), Cond.methodLink RX3 41 yX3_finish, Cond.instanceMethod yX3_finish, Cond.selects RX3 yX3_finish yX3_finish, Cond.code yX3_finish cX3_finish 3 none, Cond.methodLink RX3 45 yX5_limitOf, Cond.instanceMethod yX5_limitOf, Cond.selects RX5 yX5_limitOf yX5_limitOf, Cond.initialized RX5, Cond.code yX5_limitOf cX5_limitOf 3 (some .int), Cond.fieldLink RX5 18 "Ghostracer$Track" "stretches" "I", Cond.fieldLink RX5 9 "Ghostracer$Track" "ends" "[I", Cond.fieldLink RX5 15 "Ghostracer$Track" "limits" "[I"]
def wsX6_rideAgain : List Cond := .code yX6_rideAgain cX6_rideAgain 3 none :: ((wsX6_rideAgain_r1 ++ (wsX6_rideAgain_r2 ++ wsX6_rideAgain_r3)) ++ wsX60 ++ wsX20 ++ wsX30 ++ wsX50 ++ wsX10 ++ (vx_atS RX6 293 "java/lang/IndexOutOfBoundsException" ["java/lang/RuntimeException", "java/lang/Exception"]).filter goodWord)
def wsX6_replay_r1 : List Cond := [Cond.classLink RX6 109 "java/util/NoSuchElementException", Cond.initialized "java/util/NoSuchElementException", Cond.fieldLink RX6 203 "Ghostracer$Lap" "ticks" "I", Cond.fieldLink RX6 28 "Ghostracer" "ride" "LGhostracer$Ride;", Cond.fieldLink RX6 217 "Ghostracer$Ride" "speed" "I", Cond.fieldLink RX6 220 "Ghostracer$Ride" "place" "I", Cond.methodLink RX6 194 yX6_lapNumbered, Cond.instanceMethod yX6_lapNumbered, Cond.selects RX6 yX6_lapNumbered yX6_lapNumbered, Cond.initialized RX6, Cond.code yX6_lapNumbered cX6_lapNumbered 2 (some (.object "Ghostracer$Lap")), Cond.classLink RX6 289 "java/lang/IndexOutOfBoundsException", Cond.initialized "java/lang/IndexOutOfBoundsException", Cond.fieldLink RX6 35 "Ghostracer" "book" "LGhostracer$Book;", Cond.fieldLink RX6 148 "Ghostracer$Book" "laps" "[LGhostracer$Lap;", Cond.methodLink RX6 225 yX0_has, Cond.instanceMethod yX0_has, Cond.selects RX0 yX0_has yX0_has, Cond.initialized RX0, Cond.code yX0_has cX0_has 2 (some .boolean), Cond.fieldLink RX0 18 "Ghostracer$Book" "count" "I", Cond.methodLink RX6 213 yX6_rideAgain, Cond.instanceMethod yX6_rideAgain, Cond.selects RX6 yX6_rideAgain yX6_rideAgain]
def wsX6_replay_r2 : List Cond := [Cond.code yX6_rideAgain cX6_rideAgain 3 none, Cond.fieldLink RX6 208 "Ghostracer$Lap" "inputs" "[C", Cond.fieldLink RX6 157 "Ghostracer$Lap" "track" "I", Cond.fieldLink RX6 160 "Ghostracer$Lap" "car" "I", Cond.methodLink RX6 59 yX6_trackNumbered, Cond.instanceMethod yX6_trackNumbered, Cond.selects RX6 yX6_trackNumbered yX6_trackNumbered, Cond.code yX6_trackNumbered cX6_trackNumbered 2 (some (.object "Ghostracer$Track")), Cond.fieldLink RX6 48 "Ghostracer" "trackCount" "I", Cond.fieldLink RX6 11 "Ghostracer" "tracks" "[LGhostracer$Track;", Cond.methodLink RX6 129 yX6_carNumbered, Cond.instanceMethod yX6_carNumbered, Cond.selects RX6 yX6_carNumbered yX6_carNumbered, Cond.code yX6_carNumbered cX6_carNumbered 2 (some (.object "Ghostracer$Car")), Cond.fieldLink RX6 95 "Ghostracer" "carCount" "I", Cond.fieldLink RX6 17 "Ghostracer" "cars" "[LGhostracer$Car;", Cond.methodLink RX6 185 yX3_follow, Cond.instanceMethod yX3_follow, Cond.selects RX3 yX3_follow yX3_follow, Cond.initialized RX3, Cond.code yX3_follow cX3_follow 6 none, Cond.fieldLink RX3 7 "Ghostracer$Ride" "place" "I", Cond.fieldLink RX3 13 "Ghostracer$Ride" "speed" "I", Cond.fieldLink RX3 16 "Ghostracer$Ride" "ticks" "I"]
def wsX6_replay_r3 : List Cond := [Cond.fieldLink RX3 19 "Ghostracer$Ride" "time" "I", Cond.fieldLink RX3 22 "Ghostracer$Ride" "isOver" "Z", Cond.methodLink RX3 26 yX3_move, Cond.instanceMethod yX3_move, Cond.selects RX3 yX3_move yX3_move, Cond.code yX3_move cX3_move 4 none, Cond.fieldLink RX3 36 "Ghostracer$Track" "length" "I", Cond.fieldLink RX3 49 "Ghostracer$Car" "grip" "I", Cond.methodLink RX3 30 yX1_speedAfter, Cond.instanceMethod yX1_speedAfter, Cond.selects RX1 yX1_speedAfter yX1_speedAfter, Cond.initialized RX1, Cond.code yX1_speedAfter cX1_speedAfter 3 (some .int), Cond.fieldLink RX1 7 "Ghostracer$Car" "top" "I", Cond.fieldLink RX1 13 "Ghostracer$Car" "pull" "I", Cond.methodLink RX1 16 Lib.Math.min.name, Cond.static Lib.Math.min.name, Cond.initialized "java/lang/Math", Cond.code Lib.Math.min.name Lib.Math.min.code 2 (some .int), Cond.methodLink RX1 22 Lib.Math.max.name, Cond.static Lib.Math.max.name, Cond.code Lib.Math.max.name Lib.Math.max.code 2 (some .int), Cond.methodLink RX3 41 yX3_finish, Cond.instanceMethod yX3_finish]
def wsX6_replay_r4 : List Cond := [Cond.selects RX3 yX3_finish yX3_finish, Cond.code yX3_finish cX3_finish 3 none, Cond.methodLink RX3 45 yX5_limitOf, Cond.instanceMethod yX5_limitOf, Cond.selects RX5 yX5_limitOf yX5_limitOf, Cond.initialized RX5, Cond.code yX5_limitOf cX5_limitOf 3 (some .int), Cond.fieldLink RX5 18 "Ghostracer$Track" "stretches" "I", Cond.fieldLink RX5 9 "Ghostracer$Track" "ends" "[I", Cond.fieldLink RX5 15 "Ghostracer$Track" "limits" "[I"]
def wsX6_replay : List Cond := .code yX6_replay cX6_replay 5 (some .int) :: ((wsX6_replay_r1 ++ (wsX6_replay_r2 ++ (wsX6_replay_r3 ++ wsX6_replay_r4))) ++ wsX20 ++ wsX60 ++ wsX30 ++ wsX00 ++ wsX50 ++ wsX10 ++ (vx_atS RX6 113 "java/util/NoSuchElementException" ["java/lang/RuntimeException", "java/lang/Exception"]).filter goodWord ++ (vx_atS RX6 293 "java/lang/IndexOutOfBoundsException" ["java/lang/RuntimeException", "java/lang/Exception"]).filter goodWord)
def wsX6_of : List Cond := .code yX6_of cX6_of 4 (some .int) :: ([.classLink RX6 67 "java/lang/IllegalArgumentException", .initialized "java/lang/IllegalArgumentException", .fieldLink RX6 152 "Ghostracer$Lap" "driver" "I", .fieldLink RX6 157 "Ghostracer$Lap" "track" "I", .fieldLink RX6 160 "Ghostracer$Lap" "car" "I", .fieldLink RX6 163 "Ghostracer$Lap" "ghost" "I", .fieldLink RX6 169 "Ghostracer$Lap" "round" "I", .methodLink RX6 194 yX6_lapNumbered, .instanceMethod yX6_lapNumbered, .selects RX6 yX6_lapNumbered yX6_lapNumbered, .initialized RX6, .code yX6_lapNumbered cX6_lapNumbered 2 (some (.object "Ghostracer$Lap")), .classLink RX6 289 "java/lang/IndexOutOfBoundsException", .initialized "java/lang/IndexOutOfBoundsException", .fieldLink RX6 35 "Ghostracer" "book" "LGhostracer$Book;", .fieldLink RX6 148 "Ghostracer$Book" "laps" "[LGhostracer$Lap;", .methodLink RX6 225 yX0_has, .instanceMethod yX0_has, .selects RX0 yX0_has yX0_has, .initialized RX0, .code yX0_has cX0_has 2 (some .boolean), .fieldLink RX0 18 "Ghostracer$Book" "count" "I"] ++ wsX20 ++ wsX60 ++ wsX00 ++ (vx_atS RX6 71 "java/lang/IllegalArgumentException" ["java/lang/RuntimeException", "java/lang/Exception"]).filter goodWord ++ (vx_atS RX6 293 "java/lang/IndexOutOfBoundsException" ["java/lang/RuntimeException", "java/lang/Exception"]).filter goodWord)
def wsX6_beats_r1 : List Cond := [Cond.classLink RX6 109 "java/util/NoSuchElementException", Cond.initialized "java/util/NoSuchElementException", Cond.fieldLink RX6 35 "Ghostracer" "book" "LGhostracer$Book;", Cond.fieldLink RX6 163 "Ghostracer$Lap" "ghost" "I", Cond.fieldLink RX6 148 "Ghostracer$Book" "laps" "[LGhostracer$Lap;", Cond.methodLink RX6 194 yX6_lapNumbered, Cond.instanceMethod yX6_lapNumbered, Cond.selects RX6 yX6_lapNumbered yX6_lapNumbered, Cond.initialized RX6, Cond.code yX6_lapNumbered cX6_lapNumbered 2 (some (.object "Ghostracer$Lap")), Cond.classLink RX6 289 "java/lang/IndexOutOfBoundsException", Cond.initialized "java/lang/IndexOutOfBoundsException", Cond.methodLink RX6 225 yX0_has, Cond.instanceMethod yX0_has, Cond.selects RX0 yX0_has yX0_has, Cond.initialized RX0, Cond.code yX0_has cX0_has 2 (some .boolean), Cond.fieldLink RX0 18 "Ghostracer$Book" "count" "I", Cond.methodLink RX6 198 yX2_counted, Cond.instanceMethod yX2_counted, Cond.selects RX2 yX2_counted yX2_counted, Cond.initialized RX2, Cond.code yX2_counted cX2_counted 1 (some .int), Cond.fieldLink RX2 25 "Ghostracer$Lap" "time" "I"]
def wsX6_beats_r2 : List Cond := [Cond.fieldLink RX2 30 "Ghostracer$Lap" "penalty" "I"]
def wsX6_beats : List Cond := .code yX6_beats cX6_beats 3 (some .boolean) :: ((wsX6_beats_r1 ++ wsX6_beats_r2) ++ wsX60 ++ wsX20 ++ wsX00 ++ (vx_atS RX6 113 "java/util/NoSuchElementException" ["java/lang/RuntimeException", "java/lang/Exception"]).filter goodWord ++ (vx_atS RX6 293 "java/lang/IndexOutOfBoundsException" ["java/lang/RuntimeException", "java/lang/Exception"]).filter goodWord)
def wsX6_least_r1 : List Cond := [Cond.classLink RX6 109 "java/util/NoSuchElementException", Cond.initialized "java/util/NoSuchElementException", Cond.fieldLink RX6 35 "Ghostracer" "book" "LGhostracer$Book;", Cond.methodLink RX6 59 yX6_trackNumbered, Cond.instanceMethod yX6_trackNumbered, Cond.selects RX6 yX6_trackNumbered yX6_trackNumbered, Cond.initialized RX6, Cond.code yX6_trackNumbered cX6_trackNumbered 2 (some (.object "Ghostracer$Track")), Cond.classLink RX6 289 "java/lang/IndexOutOfBoundsException", Cond.initialized "java/lang/IndexOutOfBoundsException", Cond.fieldLink RX6 48 "Ghostracer" "trackCount" "I", Cond.fieldLink RX6 11 "Ghostracer" "tracks" "[LGhostracer$Track;", Cond.methodLink RX6 231 yX0_leastOn, Cond.instanceMethod yX0_leastOn, Cond.selects RX0 yX0_leastOn yX0_leastOn, Cond.initialized RX0, Cond.code yX0_leastOn cX0_leastOn 4 (some .int), Cond.fieldLink RX0 18 "Ghostracer$Book" "count" "I", Cond.fieldLink RX0 11 "Ghostracer$Book" "laps" "[LGhostracer$Lap;", Cond.fieldLink RX0 29 "Ghostracer$Lap" "stands" "Z", Cond.fieldLink RX0 26 "Ghostracer$Lap" "track" "I", Cond.methodLink RX0 64 yX0_isAhead, Cond.instanceMethod yX0_isAhead, Cond.selects RX0 yX0_isAhead yX0_isAhead]
def wsX6_least_r2 : List Cond := [Cond.code yX0_isAhead cX0_isAhead 5 (some .boolean), Cond.methodLink RX0 22 yX0_has, Cond.instanceMethod yX0_has, Cond.selects RX0 yX0_has yX0_has, Cond.code yX0_has cX0_has 2 (some .boolean), Cond.methodLink RX0 67 yX2_counted, Cond.instanceMethod yX2_counted, Cond.selects RX2 yX2_counted yX2_counted, Cond.initialized RX2, Cond.code yX2_counted cX2_counted 1 (some .int), Cond.fieldLink RX2 25 "Ghostracer$Lap" "time" "I", Cond.fieldLink RX2 30 "Ghostracer$Lap" "penalty" "I"]
def wsX6_least : List Cond := .code yX6_least cX6_least 3 (some .int) :: ((wsX6_least_r1 ++ wsX6_least_r2) ++ wsX60 ++ wsX00 ++ wsX20 ++ (vx_atS RX6 113 "java/util/NoSuchElementException" ["java/lang/RuntimeException", "java/lang/Exception"]).filter goodWord ++ (vx_atS RX6 293 "java/lang/IndexOutOfBoundsException" ["java/lang/RuntimeException", "java/lang/Exception"]).filter goodWord)
def wsX6_base : List Cond := .code yX6_base cX6_base 3 (some .int) :: ([.classLink RX6 109 "java/util/NoSuchElementException", .initialized "java/util/NoSuchElementException", .fieldLink RX6 236 "Ghostracer$Lap" "base" "I", .methodLink RX6 194 yX6_lapNumbered, .instanceMethod yX6_lapNumbered, .selects RX6 yX6_lapNumbered yX6_lapNumbered, .initialized RX6, .code yX6_lapNumbered cX6_lapNumbered 2 (some (.object "Ghostracer$Lap")), .classLink RX6 289 "java/lang/IndexOutOfBoundsException", .initialized "java/lang/IndexOutOfBoundsException", .fieldLink RX6 35 "Ghostracer" "book" "LGhostracer$Book;", .fieldLink RX6 148 "Ghostracer$Book" "laps" "[LGhostracer$Lap;", .methodLink RX6 225 yX0_has, .instanceMethod yX0_has, .selects RX0 yX0_has yX0_has, .initialized RX0, .code yX0_has cX0_has 2 (some .boolean), .fieldLink RX0 18 "Ghostracer$Book" "count" "I"] ++ wsX20 ++ wsX60 ++ wsX00 ++ (vx_atS RX6 113 "java/util/NoSuchElementException" ["java/lang/RuntimeException", "java/lang/Exception"]).filter goodWord ++ (vx_atS RX6 293 "java/lang/IndexOutOfBoundsException" ["java/lang/RuntimeException", "java/lang/Exception"]).filter goodWord)
def wsX6_depth : List Cond := .code yX6_depth cX6_depth 2 (some .int) :: ([.fieldLink RX6 241 "Ghostracer$Lap" "depth" "I", .methodLink RX6 194 yX6_lapNumbered, .instanceMethod yX6_lapNumbered, .selects RX6 yX6_lapNumbered yX6_lapNumbered, .initialized RX6, .code yX6_lapNumbered cX6_lapNumbered 2 (some (.object "Ghostracer$Lap")), .classLink RX6 289 "java/lang/IndexOutOfBoundsException", .initialized "java/lang/IndexOutOfBoundsException", .fieldLink RX6 35 "Ghostracer" "book" "LGhostracer$Book;", .fieldLink RX6 148 "Ghostracer$Book" "laps" "[LGhostracer$Lap;", .methodLink RX6 225 yX0_has, .instanceMethod yX0_has, .selects RX0 yX0_has yX0_has, .initialized RX0, .code yX0_has cX0_has 2 (some .boolean), .fieldLink RX0 18 "Ghostracer$Book" "count" "I"] ++ wsX20 ++ wsX60 ++ wsX00 ++ (vx_atS RX6 293 "java/lang/IndexOutOfBoundsException" ["java/lang/RuntimeException", "java/lang/Exception"]).filter goodWord)
def wsX6_parts : List Cond := .code yX6_parts cX6_parts 2 (some .int) :: ([.fieldLink RX6 244 "Ghostracer$Lap" "parts" "I", .methodLink RX6 194 yX6_lapNumbered, .instanceMethod yX6_lapNumbered, .selects RX6 yX6_lapNumbered yX6_lapNumbered, .initialized RX6, .code yX6_lapNumbered cX6_lapNumbered 2 (some (.object "Ghostracer$Lap")), .classLink RX6 289 "java/lang/IndexOutOfBoundsException", .initialized "java/lang/IndexOutOfBoundsException", .fieldLink RX6 35 "Ghostracer" "book" "LGhostracer$Book;", .fieldLink RX6 148 "Ghostracer$Book" "laps" "[LGhostracer$Lap;", .methodLink RX6 225 yX0_has, .instanceMethod yX0_has, .selects RX0 yX0_has yX0_has, .initialized RX0, .code yX0_has cX0_has 2 (some .boolean), .fieldLink RX0 18 "Ghostracer$Book" "count" "I"] ++ wsX20 ++ wsX60 ++ wsX00 ++ (vx_atS RX6 293 "java/lang/IndexOutOfBoundsException" ["java/lang/RuntimeException", "java/lang/Exception"]).filter goodWord)
def wsX6_stored : List Cond := .code yX6_stored cX6_stored 3 (some .int) :: ([.fieldLink RX6 35 "Ghostracer" "book" "LGhostracer$Book;", .fieldLink RX6 143 "Ghostracer$Book" "count" "I", .fieldLink RX6 148 "Ghostracer$Book" "laps" "[LGhostracer$Lap;", .fieldLink RX6 244 "Ghostracer$Lap" "parts" "I"] ++ wsX60 ++ wsX00 ++ wsX20)
def wsX6_resting_r1 : List Cond := [Cond.fieldLink RX6 35 "Ghostracer" "book" "LGhostracer$Book;", Cond.methodLink RX6 194 yX6_lapNumbered, Cond.instanceMethod yX6_lapNumbered, Cond.selects RX6 yX6_lapNumbered yX6_lapNumbered, Cond.initialized RX6, Cond.code yX6_lapNumbered cX6_lapNumbered 2 (some (.object "Ghostracer$Lap")), Cond.classLink RX6 289 "java/lang/IndexOutOfBoundsException", Cond.initialized "java/lang/IndexOutOfBoundsException", Cond.fieldLink RX6 148 "Ghostracer$Book" "laps" "[LGhostracer$Lap;", Cond.methodLink RX6 225 yX0_has, Cond.instanceMethod yX0_has, Cond.selects RX0 yX0_has yX0_has, Cond.initialized RX0, Cond.code yX0_has cX0_has 2 (some .boolean), Cond.fieldLink RX0 18 "Ghostracer$Book" "count" "I", Cond.methodLink RX6 247 yX0_countResting, Cond.instanceMethod yX0_countResting, Cond.selects RX0 yX0_countResting yX0_countResting, Cond.code yX0_countResting cX0_countResting 4 (some .int), Cond.methodLink RX0 60 yX0_restsOn, Cond.instanceMethod yX0_restsOn, Cond.selects RX0 yX0_restsOn yX0_restsOn, Cond.code yX0_restsOn cX0_restsOn 5 (some .boolean), Cond.fieldLink RX0 11 "Ghostracer$Book" "laps" "[LGhostracer$Lap;"]
def wsX6_resting_r2 : List Cond := [Cond.fieldLink RX0 47 "Ghostracer$Lap" "base" "I", Cond.methodLink RX0 22 yX0_has]
def wsX6_resting : List Cond := .code yX6_resting cX6_resting 2 (some .int) :: ((wsX6_resting_r1 ++ wsX6_resting_r2) ++ wsX60 ++ wsX00 ++ wsX20 ++ (vx_atS RX6 293 "java/lang/IndexOutOfBoundsException" ["java/lang/RuntimeException", "java/lang/Exception"]).filter goodWord)
def wsX6_strike_r1 : List Cond := [Cond.classLink RX6 76 "java/lang/UnsupportedOperationException", Cond.initialized "java/lang/UnsupportedOperationException", Cond.fieldLink RX6 250 "Ghostracer$Lap" "stands" "Z", Cond.fieldLink RX6 35 "Ghostracer" "book" "LGhostracer$Book;", Cond.fieldLink RX6 236 "Ghostracer$Lap" "base" "I", Cond.methodLink RX6 194 yX6_lapNumbered, Cond.instanceMethod yX6_lapNumbered, Cond.selects RX6 yX6_lapNumbered yX6_lapNumbered, Cond.initialized RX6, Cond.code yX6_lapNumbered cX6_lapNumbered 2 (some (.object "Ghostracer$Lap")), Cond.classLink RX6 289 "java/lang/IndexOutOfBoundsException", Cond.initialized "java/lang/IndexOutOfBoundsException", Cond.fieldLink RX6 148 "Ghostracer$Book" "laps" "[LGhostracer$Lap;", Cond.methodLink RX6 225 yX0_has, Cond.instanceMethod yX0_has, Cond.selects RX0 yX0_has yX0_has, Cond.initialized RX0, Cond.code yX0_has cX0_has 2 (some .boolean), Cond.fieldLink RX0 18 "Ghostracer$Book" "count" "I", Cond.methodLink RX6 255 yX0_moveFrom, Cond.instanceMethod yX0_moveFrom, Cond.selects RX0 yX0_moveFrom yX0_moveFrom, Cond.code yX0_moveFrom cX0_moveFrom 5 (some .int), Cond.fieldLink RX0 11 "Ghostracer$Book" "laps" "[LGhostracer$Lap;"]
def wsX6_strike_r2 : List Cond := [Cond.fieldLink RX0 47 "Ghostracer$Lap" "base" "I", Cond.methodLink RX0 39 yX0_store, Cond.instanceMethod yX0_store, Cond.selects RX0 yX0_store yX0_store, Cond.code yX0_store cX0_store 3 none, Cond.fieldLink RX0 54 "Ghostracer$Lap" "ticks" "I", Cond.fieldLink RX0 57 "Ghostracer$Lap" "parts" "I", Cond.methodLink RX0 22 yX0_has, Cond.methodLink RX0 50 yX2_inputsUnlike, Cond.instanceMethod yX2_inputsUnlike, Cond.selects RX2 yX2_inputsUnlike yX2_inputsUnlike, Cond.initialized RX2, Cond.code yX2_inputsUnlike cX2_inputsUnlike 4 (some .int), Cond.fieldLink RX2 21 "Ghostracer$Lap" "ticks" "I", Cond.fieldLink RX2 9 "Ghostracer$Lap" "inputs" "[C", Cond.methodLink RX0 43 yX0_settleDepth, Cond.instanceMethod yX0_settleDepth, Cond.selects RX0 yX0_settleDepth yX0_settleDepth, Cond.code yX0_settleDepth cX0_settleDepth 2 none, Cond.fieldLink RX0 36 "Ghostracer$Lap" "depth" "I"]
def wsX6_strike : List Cond := .code yX6_strike cX6_strike 3 (some .int) :: ((wsX6_strike_r1 ++ wsX6_strike_r2) ++ wsX20 ++ wsX60 ++ wsX00 ++ (vx_atS RX6 80 "java/lang/UnsupportedOperationException" ["java/lang/RuntimeException", "java/lang/Exception"]).filter goodWord ++ (vx_atS RX6 293 "java/lang/IndexOutOfBoundsException" ["java/lang/RuntimeException", "java/lang/Exception"]).filter goodWord)
def wsX6_giveBack : List Cond := .code yX6_giveBack cX6_giveBack 3 (some .int) :: ([.classLink RX6 76 "java/lang/UnsupportedOperationException", .initialized "java/lang/UnsupportedOperationException", .fieldLink RX6 250 "Ghostracer$Lap" "stands" "Z", .fieldLink RX6 35 "Ghostracer" "book" "LGhostracer$Book;", .methodLink RX6 194 yX6_lapNumbered, .instanceMethod yX6_lapNumbered, .selects RX6 yX6_lapNumbered yX6_lapNumbered, .initialized RX6, .code yX6_lapNumbered cX6_lapNumbered 2 (some (.object "Ghostracer$Lap")), .classLink RX6 289 "java/lang/IndexOutOfBoundsException", .initialized "java/lang/IndexOutOfBoundsException", .fieldLink RX6 148 "Ghostracer$Book" "laps" "[LGhostracer$Lap;", .methodLink RX6 225 yX0_has, .instanceMethod yX0_has, .selects RX0 yX0_has yX0_has, .initialized RX0, .code yX0_has cX0_has 2 (some .boolean), .fieldLink RX0 18 "Ghostracer$Book" "count" "I", .methodLink RX6 261 yX0_countStanding, .instanceMethod yX0_countStanding, .selects RX0 yX0_countStanding yX0_countStanding, .code yX0_countStanding cX0_countStanding 3 (some .int), .fieldLink RX0 11 "Ghostracer$Book" "laps" "[LGhostracer$Lap;", .fieldLink RX0 29 "Ghostracer$Lap" "stands" "Z"] ++ wsX20 ++ wsX60 ++ wsX00 ++ (vx_atS RX6 80 "java/lang/UnsupportedOperationException" ["java/lang/RuntimeException", "java/lang/Exception"]).filter goodWord ++ (vx_atS RX6 293 "java/lang/IndexOutOfBoundsException" ["java/lang/RuntimeException", "java/lang/Exception"]).filter goodWord)
def wsX6_stands : List Cond := .code yX6_stands cX6_stands 2 (some .boolean) :: ([.fieldLink RX6 250 "Ghostracer$Lap" "stands" "Z", .methodLink RX6 194 yX6_lapNumbered, .instanceMethod yX6_lapNumbered, .selects RX6 yX6_lapNumbered yX6_lapNumbered, .initialized RX6, .code yX6_lapNumbered cX6_lapNumbered 2 (some (.object "Ghostracer$Lap")), .classLink RX6 289 "java/lang/IndexOutOfBoundsException", .initialized "java/lang/IndexOutOfBoundsException", .fieldLink RX6 35 "Ghostracer" "book" "LGhostracer$Book;", .fieldLink RX6 148 "Ghostracer$Book" "laps" "[LGhostracer$Lap;", .methodLink RX6 225 yX0_has, .instanceMethod yX0_has, .selects RX0 yX0_has yX0_has, .initialized RX0, .code yX0_has cX0_has 2 (some .boolean), .fieldLink RX0 18 "Ghostracer$Book" "count" "I"] ++ wsX20 ++ wsX60 ++ wsX00 ++ (vx_atS RX6 293 "java/lang/IndexOutOfBoundsException" ["java/lang/RuntimeException", "java/lang/Exception"]).filter goodWord)
def wsX6_penalty : List Cond := .code yX6_penalty cX6_penalty 5 (some .int) :: ([.classLink RX6 67 "java/lang/IllegalArgumentException", .initialized "java/lang/IllegalArgumentException", .fieldLink RX6 266 "Ghostracer$Lap" "penalty" "I", .methodLink RX6 194 yX6_lapNumbered, .instanceMethod yX6_lapNumbered, .selects RX6 yX6_lapNumbered yX6_lapNumbered, .initialized RX6, .code yX6_lapNumbered cX6_lapNumbered 2 (some (.object "Ghostracer$Lap")), .classLink RX6 289 "java/lang/IndexOutOfBoundsException", .initialized "java/lang/IndexOutOfBoundsException", .fieldLink RX6 35 "Ghostracer" "book" "LGhostracer$Book;", .fieldLink RX6 148 "Ghostracer$Book" "laps" "[LGhostracer$Lap;", .methodLink RX6 225 yX0_has, .instanceMethod yX0_has, .selects RX0 yX0_has yX0_has, .initialized RX0, .code yX0_has cX0_has 2 (some .boolean), .fieldLink RX0 18 "Ghostracer$Book" "count" "I", .methodLink RX6 63 yX6_isWithin, .static yX6_isWithin, .code yX6_isWithin cX6_isWithin 3 (some .boolean)] ++ wsX20 ++ wsX60 ++ wsX00 ++ (vx_atS RX6 71 "java/lang/IllegalArgumentException" ["java/lang/RuntimeException", "java/lang/Exception"]).filter goodWord ++ (vx_atS RX6 293 "java/lang/IndexOutOfBoundsException" ["java/lang/RuntimeException", "java/lang/Exception"]).filter goodWord)
def wsX6_round : List Cond := .code yX6_round cX6_round 2 (some .int) :: ([.classLink RX6 52 "java/lang/IllegalStateException", .initialized "java/lang/IllegalStateException", .fieldLink RX6 42 "Ghostracer" "season" "LGhostracer$Season;", .fieldLink RX6 269 "Ghostracer$Season" "rounds" "I", .fieldLink RX6 277 "Ghostracer$Season" "open" "I", .methodLink RX6 59 yX6_trackNumbered, .instanceMethod yX6_trackNumbered, .selects RX6 yX6_trackNumbered yX6_trackNumbered, .initialized RX6, .code yX6_trackNumbered cX6_trackNumbered 2 (some (.object "Ghostracer$Track")), .classLink RX6 289 "java/lang/IndexOutOfBoundsException", .initialized "java/lang/IndexOutOfBoundsException", .fieldLink RX6 48 "Ghostracer" "trackCount" "I", .fieldLink RX6 11 "Ghostracer" "tracks" "[LGhostracer$Track;", .methodLink RX6 274 yX4_openOn, .instanceMethod yX4_openOn, .selects RX4 yX4_openOn yX4_openOn, .initialized RX4, .code yX4_openOn cX4_openOn 2 none, .fieldLink RX4 31 "Ghostracer$Season" "rounds" "I", .fieldLink RX4 9 "Ghostracer$Season" "tracks" "[I", .fieldLink RX4 15 "Ghostracer$Season" "open" "I"] ++ wsX60 ++ wsX40 ++ (vx_atS RX6 56 "java/lang/IllegalStateException" ["java/lang/RuntimeException", "java/lang/Exception"]).filter goodWord ++ (vx_atS RX6 293 "java/lang/IndexOutOfBoundsException" ["java/lang/RuntimeException", "java/lang/Exception"]).filter goodWord)
def wsX6_shut : List Cond := .code yX6_shut cX6_shut 2 (some .int) :: ([.classLink RX6 52 "java/lang/IllegalStateException", .initialized "java/lang/IllegalStateException", .fieldLink RX6 42 "Ghostracer" "season" "LGhostracer$Season;", .fieldLink RX6 277 "Ghostracer$Season" "open" "I"] ++ wsX60 ++ wsX40 ++ (vx_atS RX6 56 "java/lang/IllegalStateException" ["java/lang/RuntimeException", "java/lang/Exception"]).filter goodWord)
def wsX6_findLap_r1 : List Cond := [Cond.classLink RX6 289 "java/lang/IndexOutOfBoundsException", Cond.initialized "java/lang/IndexOutOfBoundsException", Cond.classLink RX6 109 "java/util/NoSuchElementException", Cond.initialized "java/util/NoSuchElementException", Cond.fieldLink RX6 42 "Ghostracer" "season" "LGhostracer$Season;", Cond.fieldLink RX6 269 "Ghostracer$Season" "rounds" "I", Cond.fieldLink RX6 35 "Ghostracer" "book" "LGhostracer$Book;", Cond.fieldLink RX6 298 "Ghostracer$Season" "lapOf" "[I", Cond.methodLink RX6 125 yX6_requireDriver, Cond.instanceMethod yX6_requireDriver, Cond.selects RX6 yX6_requireDriver yX6_requireDriver, Cond.initialized RX6, Cond.code yX6_requireDriver cX6_requireDriver 2 none, Cond.methodLink RX6 294 yX4_findLaps, Cond.instanceMethod yX4_findLaps, Cond.selects RX4 yX4_findLaps yX4_findLaps, Cond.initialized RX4, Cond.code yX4_findLaps cX4_findLaps 5 none, Cond.fieldLink RX4 19 "Ghostracer$Season" "lapOf" "[I", Cond.fieldLink RX4 34 "Ghostracer$Book" "count" "I", Cond.fieldLink RX4 39 "Ghostracer$Book" "laps" "[LGhostracer$Lap;", Cond.fieldLink RX4 43 "Ghostracer$Lap" "stands" "Z", Cond.fieldLink RX4 49 "Ghostracer$Lap" "round" "I", Cond.fieldLink RX4 52 "Ghostracer$Lap" "driver" "I"]
def wsX6_findLap_r2 : List Cond := [Cond.methodLink RX4 55 yX0_isAhead, Cond.instanceMethod yX0_isAhead, Cond.selects RX0 yX0_isAhead yX0_isAhead, Cond.initialized RX0, Cond.code yX0_isAhead cX0_isAhead 5 (some .boolean), Cond.fieldLink RX0 11 "Ghostracer$Book" "laps" "[LGhostracer$Lap;", Cond.methodLink RX0 22 yX0_has, Cond.instanceMethod yX0_has, Cond.selects RX0 yX0_has yX0_has, Cond.code yX0_has cX0_has 2 (some .boolean), Cond.fieldLink RX0 18 "Ghostracer$Book" "count" "I", Cond.methodLink RX0 67 yX2_counted, Cond.instanceMethod yX2_counted, Cond.selects RX2 yX2_counted yX2_counted, Cond.initialized RX2, Cond.code yX2_counted cX2_counted 1 (some .int), Cond.fieldLink RX2 25 "Ghostracer$Lap" "time" "I", Cond.fieldLink RX2 30 "Ghostracer$Lap" "penalty" "I"]
def wsX6_findLap : List Cond := .code yX6_findLap cX6_findLap 3 (some .int) :: ((wsX6_findLap_r1 ++ wsX6_findLap_r2) ++ wsX60 ++ wsX40 ++ wsX00 ++ wsX20 ++ (vx_atS RX6 293 "java/lang/IndexOutOfBoundsException" ["java/lang/RuntimeException", "java/lang/Exception"]).filter goodWord ++ (vx_atS RX6 113 "java/util/NoSuchElementException" ["java/lang/RuntimeException", "java/lang/Exception"]).filter goodWord)
def wsX6_lapIn_r1 : List Cond := [Cond.methodLink RX6 282 yX6_findLap, Cond.instanceMethod yX6_findLap, Cond.selects RX6 yX6_findLap yX6_findLap, Cond.initialized RX6, Cond.code yX6_findLap cX6_findLap 3 (some .int), Cond.classLink RX6 289 "java/lang/IndexOutOfBoundsException", Cond.initialized "java/lang/IndexOutOfBoundsException", Cond.classLink RX6 109 "java/util/NoSuchElementException", Cond.initialized "java/util/NoSuchElementException", Cond.fieldLink RX6 42 "Ghostracer" "season" "LGhostracer$Season;", Cond.fieldLink RX6 269 "Ghostracer$Season" "rounds" "I", Cond.fieldLink RX6 35 "Ghostracer" "book" "LGhostracer$Book;", Cond.fieldLink RX6 298 "Ghostracer$Season" "lapOf" "[I", Cond.methodLink RX6 125 yX6_requireDriver, Cond.instanceMethod yX6_requireDriver, Cond.selects RX6 yX6_requireDriver yX6_requireDriver, Cond.code yX6_requireDriver cX6_requireDriver 2 none, Cond.methodLink RX6 294 yX4_findLaps, Cond.instanceMethod yX4_findLaps, Cond.selects RX4 yX4_findLaps yX4_findLaps, Cond.initialized RX4, Cond.code yX4_findLaps cX4_findLaps 5 none, Cond.fieldLink RX4 19 "Ghostracer$Season" "lapOf" "[I", Cond.fieldLink RX4 34 "Ghostracer$Book" "count" "I"]
def wsX6_lapIn_r2 : List Cond := [Cond.fieldLink RX4 39 "Ghostracer$Book" "laps" "[LGhostracer$Lap;", Cond.fieldLink RX4 43 "Ghostracer$Lap" "stands" "Z", Cond.fieldLink RX4 49 "Ghostracer$Lap" "round" "I", Cond.fieldLink RX4 52 "Ghostracer$Lap" "driver" "I", Cond.methodLink RX4 55 yX0_isAhead, Cond.instanceMethod yX0_isAhead, Cond.selects RX0 yX0_isAhead yX0_isAhead, Cond.initialized RX0, Cond.code yX0_isAhead cX0_isAhead 5 (some .boolean), Cond.fieldLink RX0 11 "Ghostracer$Book" "laps" "[LGhostracer$Lap;", Cond.methodLink RX0 22 yX0_has, Cond.instanceMethod yX0_has, Cond.selects RX0 yX0_has yX0_has, Cond.code yX0_has cX0_has 2 (some .boolean), Cond.fieldLink RX0 18 "Ghostracer$Book" "count" "I", Cond.methodLink RX0 67 yX2_counted, Cond.instanceMethod yX2_counted, Cond.selects RX2 yX2_counted yX2_counted, Cond.initialized RX2, Cond.code yX2_counted cX2_counted 1 (some .int), Cond.fieldLink RX2 25 "Ghostracer$Lap" "time" "I", Cond.fieldLink RX2 30 "Ghostracer$Lap" "penalty" "I"]
def wsX6_lapIn : List Cond := .code yX6_lapIn cX6_lapIn 3 (some .int) :: ((wsX6_lapIn_r1 ++ wsX6_lapIn_r2) ++ wsX60 ++ wsX40 ++ wsX00 ++ wsX20 ++ (vx_atS RX6 293 "java/lang/IndexOutOfBoundsException" ["java/lang/RuntimeException", "java/lang/Exception"]).filter goodWord ++ (vx_atS RX6 113 "java/util/NoSuchElementException" ["java/lang/RuntimeException", "java/lang/Exception"]).filter goodWord)
def wsX6_placeIn_r1 : List Cond := [Cond.fieldLink RX6 42 "Ghostracer" "season" "LGhostracer$Season;", Cond.fieldLink RX6 35 "Ghostracer" "book" "LGhostracer$Book;", Cond.methodLink RX6 282 yX6_findLap, Cond.instanceMethod yX6_findLap, Cond.selects RX6 yX6_findLap yX6_findLap, Cond.initialized RX6, Cond.code yX6_findLap cX6_findLap 3 (some .int), Cond.classLink RX6 289 "java/lang/IndexOutOfBoundsException", Cond.initialized "java/lang/IndexOutOfBoundsException", Cond.classLink RX6 109 "java/util/NoSuchElementException", Cond.initialized "java/util/NoSuchElementException", Cond.fieldLink RX6 269 "Ghostracer$Season" "rounds" "I", Cond.fieldLink RX6 298 "Ghostracer$Season" "lapOf" "[I", Cond.methodLink RX6 125 yX6_requireDriver, Cond.instanceMethod yX6_requireDriver, Cond.selects RX6 yX6_requireDriver yX6_requireDriver, Cond.code yX6_requireDriver cX6_requireDriver 2 none, Cond.methodLink RX6 294 yX4_findLaps, Cond.instanceMethod yX4_findLaps, Cond.selects RX4 yX4_findLaps yX4_findLaps, Cond.initialized RX4, Cond.code yX4_findLaps cX4_findLaps 5 none, Cond.fieldLink RX4 19 "Ghostracer$Season" "lapOf" "[I", Cond.fieldLink RX4 34 "Ghostracer$Book" "count" "I"]
def wsX6_placeIn_r2 : List Cond := [Cond.fieldLink RX4 39 "Ghostracer$Book" "laps" "[LGhostracer$Lap;", Cond.fieldLink RX4 43 "Ghostracer$Lap" "stands" "Z", Cond.fieldLink RX4 49 "Ghostracer$Lap" "round" "I", Cond.fieldLink RX4 52 "Ghostracer$Lap" "driver" "I", Cond.methodLink RX4 55 yX0_isAhead, Cond.instanceMethod yX0_isAhead, Cond.selects RX0 yX0_isAhead yX0_isAhead, Cond.initialized RX0, Cond.code yX0_isAhead cX0_isAhead 5 (some .boolean), Cond.fieldLink RX0 11 "Ghostracer$Book" "laps" "[LGhostracer$Lap;", Cond.methodLink RX0 22 yX0_has, Cond.instanceMethod yX0_has, Cond.selects RX0 yX0_has yX0_has, Cond.code yX0_has cX0_has 2 (some .boolean), Cond.fieldLink RX0 18 "Ghostracer$Book" "count" "I", Cond.methodLink RX0 67 yX2_counted, Cond.instanceMethod yX2_counted, Cond.selects RX2 yX2_counted yX2_counted, Cond.initialized RX2, Cond.code yX2_counted cX2_counted 1 (some .int), Cond.fieldLink RX2 25 "Ghostracer$Lap" "time" "I", Cond.fieldLink RX2 30 "Ghostracer$Lap" "penalty" "I", Cond.methodLink RX6 285 yX4_lapsAhead, Cond.instanceMethod yX4_lapsAhead]
def wsX6_placeIn_r3 : List Cond := [Cond.selects RX4 yX4_lapsAhead yX4_lapsAhead, Cond.code yX4_lapsAhead cX4_lapsAhead 5 (some .int)]
def wsX6_placeIn : List Cond := .code yX6_placeIn cX6_placeIn 3 (some .int) :: ((wsX6_placeIn_r1 ++ (wsX6_placeIn_r2 ++ wsX6_placeIn_r3)) ++ wsX60 ++ wsX40 ++ wsX00 ++ wsX20 ++ (vx_atS RX6 293 "java/lang/IndexOutOfBoundsException" ["java/lang/RuntimeException", "java/lang/Exception"]).filter goodWord ++ (vx_atS RX6 113 "java/util/NoSuchElementException" ["java/lang/RuntimeException", "java/lang/Exception"]).filter goodWord)
def wsX6_drop : List Cond := .code yX6_drop cX6_drop 3 (some .int) :: ([.classLink RX6 67 "java/lang/IllegalArgumentException", .initialized "java/lang/IllegalArgumentException", .fieldLink RX6 42 "Ghostracer" "season" "LGhostracer$Season;", .fieldLink RX6 306 "Ghostracer$Season" "dropped" "I", .methodLink RX6 63 yX6_isWithin, .static yX6_isWithin, .initialized RX6, .code yX6_isWithin cX6_isWithin 3 (some .boolean)] ++ wsX60 ++ wsX40 ++ (vx_atS RX6 71 "java/lang/IllegalArgumentException" ["java/lang/RuntimeException", "java/lang/Exception"]).filter goodWord)
def wsX6_points_r1 : List Cond := [Cond.fieldLink RX6 42 "Ghostracer" "season" "LGhostracer$Season;", Cond.fieldLink RX6 35 "Ghostracer" "book" "LGhostracer$Book;", Cond.fieldLink RX6 313 "Ghostracer$Season" "points" "[I", Cond.methodLink RX6 125 yX6_requireDriver, Cond.instanceMethod yX6_requireDriver, Cond.selects RX6 yX6_requireDriver yX6_requireDriver, Cond.initialized RX6, Cond.code yX6_requireDriver cX6_requireDriver 2 none, Cond.classLink RX6 289 "java/lang/IndexOutOfBoundsException", Cond.initialized "java/lang/IndexOutOfBoundsException", Cond.methodLink RX6 309 yX4_reckon, Cond.instanceMethod yX4_reckon, Cond.selects RX4 yX4_reckon yX4_reckon, Cond.initialized RX4, Cond.code yX4_reckon cX4_reckon 4 none, Cond.fieldLink RX4 25 "Ghostracer$Season" "points" "[I", Cond.fieldLink RX4 28 "Ghostracer$Season" "won" "[I", Cond.fieldLink RX4 31 "Ghostracer$Season" "rounds" "I", Cond.fieldLink RX4 67 "Ghostracer$Season" "dropped" "I", Cond.methodLink RX4 59 yX4_findLaps, Cond.instanceMethod yX4_findLaps, Cond.selects RX4 yX4_findLaps yX4_findLaps, Cond.code yX4_findLaps cX4_findLaps 5 none, Cond.fieldLink RX4 19 "Ghostracer$Season" "lapOf" "[I"]
def wsX6_points_r2 : List Cond := [Cond.fieldLink RX4 34 "Ghostracer$Book" "count" "I", Cond.fieldLink RX4 39 "Ghostracer$Book" "laps" "[LGhostracer$Lap;", Cond.fieldLink RX4 43 "Ghostracer$Lap" "stands" "Z", Cond.fieldLink RX4 49 "Ghostracer$Lap" "round" "I", Cond.fieldLink RX4 52 "Ghostracer$Lap" "driver" "I", Cond.methodLink RX4 55 yX0_isAhead, Cond.instanceMethod yX0_isAhead, Cond.selects RX0 yX0_isAhead yX0_isAhead, Cond.initialized RX0, Cond.code yX0_isAhead cX0_isAhead 5 (some .boolean), Cond.fieldLink RX0 11 "Ghostracer$Book" "laps" "[LGhostracer$Lap;", Cond.methodLink RX0 22 yX0_has, Cond.instanceMethod yX0_has, Cond.selects RX0 yX0_has yX0_has, Cond.code yX0_has cX0_has 2 (some .boolean), Cond.fieldLink RX0 18 "Ghostracer$Book" "count" "I", Cond.methodLink RX0 67 yX2_counted, Cond.instanceMethod yX2_counted, Cond.selects RX2 yX2_counted yX2_counted, Cond.initialized RX2, Cond.code yX2_counted cX2_counted 1 (some .int), Cond.fieldLink RX2 25 "Ghostracer$Lap" "time" "I", Cond.fieldLink RX2 30 "Ghostracer$Lap" "penalty" "I", Cond.methodLink RX4 63 yX4_score]
def wsX6_points_r3 : List Cond := [Cond.instanceMethod yX4_score, Cond.selects RX4 yX4_score yX4_score, Cond.code yX4_score cX4_score 6 none, Cond.fieldLink RX4 22 "Ghostracer$Season" "scores" "[I", Cond.methodLink RX4 74 yX4_lapsAhead, Cond.instanceMethod yX4_lapsAhead, Cond.selects RX4 yX4_lapsAhead yX4_lapsAhead, Cond.code yX4_lapsAhead cX4_lapsAhead 5 (some .int), Cond.methodLink RX4 70 yX4_takeLeast, Cond.instanceMethod yX4_takeLeast, Cond.selects RX4 yX4_takeLeast yX4_takeLeast, Cond.code yX4_takeLeast cX4_takeLeast 5 (some .int), Cond.constant RX4 83 (2147483647)]
def wsX6_points : List Cond := .code yX6_points cX6_points 2 (some .int) :: ((wsX6_points_r1 ++ (wsX6_points_r2 ++ wsX6_points_r3)) ++ wsX60 ++ wsX40 ++ wsX00 ++ wsX20 ++ (vx_atS RX6 293 "java/lang/IndexOutOfBoundsException" ["java/lang/RuntimeException", "java/lang/Exception"]).filter goodWord)
def wsX6_wins_r1 : List Cond := [Cond.fieldLink RX6 42 "Ghostracer" "season" "LGhostracer$Season;", Cond.fieldLink RX6 35 "Ghostracer" "book" "LGhostracer$Book;", Cond.fieldLink RX6 316 "Ghostracer$Season" "won" "[I", Cond.methodLink RX6 125 yX6_requireDriver, Cond.instanceMethod yX6_requireDriver, Cond.selects RX6 yX6_requireDriver yX6_requireDriver, Cond.initialized RX6, Cond.code yX6_requireDriver cX6_requireDriver 2 none, Cond.classLink RX6 289 "java/lang/IndexOutOfBoundsException", Cond.initialized "java/lang/IndexOutOfBoundsException", Cond.methodLink RX6 309 yX4_reckon, Cond.instanceMethod yX4_reckon, Cond.selects RX4 yX4_reckon yX4_reckon, Cond.initialized RX4, Cond.code yX4_reckon cX4_reckon 4 none, Cond.fieldLink RX4 25 "Ghostracer$Season" "points" "[I", Cond.fieldLink RX4 28 "Ghostracer$Season" "won" "[I", Cond.fieldLink RX4 31 "Ghostracer$Season" "rounds" "I", Cond.fieldLink RX4 67 "Ghostracer$Season" "dropped" "I", Cond.methodLink RX4 59 yX4_findLaps, Cond.instanceMethod yX4_findLaps, Cond.selects RX4 yX4_findLaps yX4_findLaps, Cond.code yX4_findLaps cX4_findLaps 5 none, Cond.fieldLink RX4 19 "Ghostracer$Season" "lapOf" "[I"]
def wsX6_wins_r2 : List Cond := [Cond.fieldLink RX4 34 "Ghostracer$Book" "count" "I", Cond.fieldLink RX4 39 "Ghostracer$Book" "laps" "[LGhostracer$Lap;", Cond.fieldLink RX4 43 "Ghostracer$Lap" "stands" "Z", Cond.fieldLink RX4 49 "Ghostracer$Lap" "round" "I", Cond.fieldLink RX4 52 "Ghostracer$Lap" "driver" "I", Cond.methodLink RX4 55 yX0_isAhead, Cond.instanceMethod yX0_isAhead, Cond.selects RX0 yX0_isAhead yX0_isAhead, Cond.initialized RX0, Cond.code yX0_isAhead cX0_isAhead 5 (some .boolean), Cond.fieldLink RX0 11 "Ghostracer$Book" "laps" "[LGhostracer$Lap;", Cond.methodLink RX0 22 yX0_has, Cond.instanceMethod yX0_has, Cond.selects RX0 yX0_has yX0_has, Cond.code yX0_has cX0_has 2 (some .boolean), Cond.fieldLink RX0 18 "Ghostracer$Book" "count" "I", Cond.methodLink RX0 67 yX2_counted, Cond.instanceMethod yX2_counted, Cond.selects RX2 yX2_counted yX2_counted, Cond.initialized RX2, Cond.code yX2_counted cX2_counted 1 (some .int), Cond.fieldLink RX2 25 "Ghostracer$Lap" "time" "I", Cond.fieldLink RX2 30 "Ghostracer$Lap" "penalty" "I", Cond.methodLink RX4 63 yX4_score]
def wsX6_wins_r3 : List Cond := [Cond.instanceMethod yX4_score, Cond.selects RX4 yX4_score yX4_score, Cond.code yX4_score cX4_score 6 none, Cond.fieldLink RX4 22 "Ghostracer$Season" "scores" "[I", Cond.methodLink RX4 74 yX4_lapsAhead, Cond.instanceMethod yX4_lapsAhead, Cond.selects RX4 yX4_lapsAhead yX4_lapsAhead, Cond.code yX4_lapsAhead cX4_lapsAhead 5 (some .int), Cond.methodLink RX4 70 yX4_takeLeast, Cond.instanceMethod yX4_takeLeast, Cond.selects RX4 yX4_takeLeast yX4_takeLeast, Cond.code yX4_takeLeast cX4_takeLeast 5 (some .int), Cond.constant RX4 83 (2147483647)]
def wsX6_wins : List Cond := .code yX6_wins cX6_wins 2 (some .int) :: ((wsX6_wins_r1 ++ (wsX6_wins_r2 ++ wsX6_wins_r3)) ++ wsX60 ++ wsX40 ++ wsX00 ++ wsX20 ++ (vx_atS RX6 293 "java/lang/IndexOutOfBoundsException" ["java/lang/RuntimeException", "java/lang/Exception"]).filter goodWord)
def wsX6_standing_r1 : List Cond := [Cond.classLink RX6 289 "java/lang/IndexOutOfBoundsException", Cond.initialized "java/lang/IndexOutOfBoundsException", Cond.fieldLink RX6 42 "Ghostracer" "season" "LGhostracer$Season;", Cond.fieldLink RX6 35 "Ghostracer" "book" "LGhostracer$Book;", Cond.methodLink RX6 309 yX4_reckon, Cond.instanceMethod yX4_reckon, Cond.selects RX4 yX4_reckon yX4_reckon, Cond.initialized RX4, Cond.code yX4_reckon cX4_reckon 4 none, Cond.fieldLink RX4 25 "Ghostracer$Season" "points" "[I", Cond.fieldLink RX4 28 "Ghostracer$Season" "won" "[I", Cond.fieldLink RX4 31 "Ghostracer$Season" "rounds" "I", Cond.fieldLink RX4 67 "Ghostracer$Season" "dropped" "I", Cond.methodLink RX4 59 yX4_findLaps, Cond.instanceMethod yX4_findLaps, Cond.selects RX4 yX4_findLaps yX4_findLaps, Cond.code yX4_findLaps cX4_findLaps 5 none, Cond.fieldLink RX4 19 "Ghostracer$Season" "lapOf" "[I", Cond.fieldLink RX4 34 "Ghostracer$Book" "count" "I", Cond.fieldLink RX4 39 "Ghostracer$Book" "laps" "[LGhostracer$Lap;", Cond.fieldLink RX4 43 "Ghostracer$Lap" "stands" "Z", Cond.fieldLink RX4 49 "Ghostracer$Lap" "round" "I", Cond.fieldLink RX4 52 "Ghostracer$Lap" "driver" "I", Cond.methodLink RX4 55 yX0_isAhead]
def wsX6_standing_r2 : List Cond := [Cond.instanceMethod yX0_isAhead, Cond.selects RX0 yX0_isAhead yX0_isAhead, Cond.initialized RX0, Cond.code yX0_isAhead cX0_isAhead 5 (some .boolean), Cond.fieldLink RX0 11 "Ghostracer$Book" "laps" "[LGhostracer$Lap;", Cond.methodLink RX0 22 yX0_has, Cond.instanceMethod yX0_has, Cond.selects RX0 yX0_has yX0_has, Cond.code yX0_has cX0_has 2 (some .boolean), Cond.fieldLink RX0 18 "Ghostracer$Book" "count" "I", Cond.methodLink RX0 67 yX2_counted, Cond.instanceMethod yX2_counted, Cond.selects RX2 yX2_counted yX2_counted, Cond.initialized RX2, Cond.code yX2_counted cX2_counted 1 (some .int), Cond.fieldLink RX2 25 "Ghostracer$Lap" "time" "I", Cond.fieldLink RX2 30 "Ghostracer$Lap" "penalty" "I", Cond.methodLink RX4 63 yX4_score, Cond.instanceMethod yX4_score, Cond.selects RX4 yX4_score yX4_score, Cond.code yX4_score cX4_score 6 none, Cond.fieldLink RX4 22 "Ghostracer$Season" "scores" "[I", Cond.methodLink RX4 74 yX4_lapsAhead, Cond.instanceMethod yX4_lapsAhead]
def wsX6_standing_r3 : List Cond := [Cond.selects RX4 yX4_lapsAhead yX4_lapsAhead, Cond.code yX4_lapsAhead cX4_lapsAhead 5 (some .int), Cond.methodLink RX4 70 yX4_takeLeast, Cond.instanceMethod yX4_takeLeast, Cond.selects RX4 yX4_takeLeast yX4_takeLeast, Cond.code yX4_takeLeast cX4_takeLeast 5 (some .int), Cond.constant RX4 83 (2147483647), Cond.methodLink RX6 319 yX4_driverBehind, Cond.instanceMethod yX4_driverBehind, Cond.selects RX4 yX4_driverBehind yX4_driverBehind, Cond.code yX4_driverBehind cX4_driverBehind 6 (some .int), Cond.methodLink RX4 84 yX4_isAheadInSeason, Cond.instanceMethod yX4_isAheadInSeason, Cond.selects RX4 yX4_isAheadInSeason yX4_isAheadInSeason, Cond.code yX4_isAheadInSeason cX4_isAheadInSeason 3 (some .boolean)]
def wsX6_standing : List Cond := .code yX6_standing cX6_standing 2 (some .int) :: ((wsX6_standing_r1 ++ (wsX6_standing_r2 ++ wsX6_standing_r3)) ++ wsX60 ++ wsX40 ++ wsX00 ++ wsX20 ++ (vx_atS RX6 293 "java/lang/IndexOutOfBoundsException" ["java/lang/RuntimeException", "java/lang/Exception"]).filter goodWord)
def wsX6_checksum : List Cond := .code yX6_checksum cX6_checksum 5 (some .long) :: ([.constantLong RX6 322 (7), .fieldLink RX6 35 "Ghostracer" "book" "LGhostracer$Book;", .fieldLink RX6 143 "Ghostracer$Book" "count" "I", .fieldLink RX6 148 "Ghostracer$Book" "laps" "[LGhostracer$Lap;", .constantLong RX6 324 (31), .fieldLink RX6 202 "Ghostracer$Lap" "time" "I", .fieldLink RX6 266 "Ghostracer$Lap" "penalty" "I", .fieldLink RX6 244 "Ghostracer$Lap" "parts" "I", .fieldLink RX6 250 "Ghostracer$Lap" "stands" "Z"] ++ wsX60 ++ wsX00 ++ wsX20)
def wsX6_shareStored : List Cond := .code yX6_shareStored cX6_shareStored 3 (some .float) :: ([.classLink RX6 109 "java/util/NoSuchElementException", .initialized "java/util/NoSuchElementException", .fieldLink RX6 35 "Ghostracer" "book" "LGhostracer$Book;", .fieldLink RX6 143 "Ghostracer$Book" "count" "I", .fieldLink RX6 148 "Ghostracer$Book" "laps" "[LGhostracer$Lap;", .fieldLink RX6 203 "Ghostracer$Lap" "ticks" "I", .methodLink RX6 328 yX6_stored, .instanceMethod yX6_stored, .selects RX6 yX6_stored yX6_stored, .initialized RX6, .code yX6_stored cX6_stored 3 (some .int), .fieldLink RX6 244 "Ghostracer$Lap" "parts" "I"] ++ wsX60 ++ wsX00 ++ wsX20 ++ (vx_atS RX6 113 "java/util/NoSuchElementException" ["java/lang/RuntimeException", "java/lang/Exception"]).filter goodWord)
def wsX6_meanTime : List Cond := .code yX6_meanTime cX6_meanTime 5 (some .double) :: ([.classLink RX6 109 "java/util/NoSuchElementException", .initialized "java/util/NoSuchElementException", .fieldLink RX6 35 "Ghostracer" "book" "LGhostracer$Book;", .fieldLink RX6 143 "Ghostracer$Book" "count" "I", .fieldLink RX6 148 "Ghostracer$Book" "laps" "[LGhostracer$Lap;", .fieldLink RX6 250 "Ghostracer$Lap" "stands" "Z", .methodLink RX6 261 yX0_countStanding, .instanceMethod yX0_countStanding, .selects RX0 yX0_countStanding yX0_countStanding, .initialized RX0, .code yX0_countStanding cX0_countStanding 3 (some .int), .fieldLink RX0 18 "Ghostracer$Book" "count" "I", .fieldLink RX0 11 "Ghostracer$Book" "laps" "[LGhostracer$Lap;", .fieldLink RX0 29 "Ghostracer$Lap" "stands" "Z", .methodLink RX6 198 yX2_counted, .instanceMethod yX2_counted, .selects RX2 yX2_counted yX2_counted, .initialized RX2, .code yX2_counted cX2_counted 1 (some .int), .fieldLink RX2 25 "Ghostracer$Lap" "time" "I", .fieldLink RX2 30 "Ghostracer$Lap" "penalty" "I"] ++ wsX60 ++ wsX00 ++ wsX20 ++ (vx_atS RX6 113 "java/util/NoSuchElementException" ["java/lang/RuntimeException", "java/lang/Exception"]).filter goodWord)
def wsX6_isSound_r1 : List Cond := [Cond.fieldLink RX6 35 "Ghostracer" "book" "LGhostracer$Book;", Cond.fieldLink RX6 143 "Ghostracer$Book" "count" "I", Cond.fieldLink RX6 148 "Ghostracer$Book" "laps" "[LGhostracer$Lap;", Cond.fieldLink RX6 203 "Ghostracer$Lap" "ticks" "I", Cond.fieldLink RX6 28 "Ghostracer" "ride" "LGhostracer$Ride;", Cond.fieldLink RX6 189 "Ghostracer$Ride" "isOver" "Z", Cond.fieldLink RX6 180 "Ghostracer$Ride" "time" "I", Cond.fieldLink RX6 202 "Ghostracer$Lap" "time" "I", Cond.fieldLink RX6 236 "Ghostracer$Lap" "base" "I", Cond.fieldLink RX6 250 "Ghostracer$Lap" "stands" "Z", Cond.fieldLink RX6 241 "Ghostracer$Lap" "depth" "I", Cond.methodLink RX6 213 yX6_rideAgain, Cond.instanceMethod yX6_rideAgain, Cond.selects RX6 yX6_rideAgain yX6_rideAgain, Cond.initialized RX6, Cond.code yX6_rideAgain cX6_rideAgain 3 none, Cond.fieldLink RX6 208 "Ghostracer$Lap" "inputs" "[C", Cond.fieldLink RX6 157 "Ghostracer$Lap" "track" "I", Cond.fieldLink RX6 160 "Ghostracer$Lap" "car" "I", Cond.methodLink RX6 59 yX6_trackNumbered, Cond.instanceMethod yX6_trackNumbered, Cond.selects RX6 yX6_trackNumbered yX6_trackNumbered, Cond.code yX6_trackNumbered cX6_trackNumbered 2 (some (.object "Ghostracer$Track")), Cond.classLink RX6 289 "java/lang/IndexOutOfBoundsException"]
def wsX6_isSound_r2 : List Cond := [Cond.initialized "java/lang/IndexOutOfBoundsException", Cond.fieldLink RX6 48 "Ghostracer" "trackCount" "I", Cond.fieldLink RX6 11 "Ghostracer" "tracks" "[LGhostracer$Track;", Cond.methodLink RX6 129 yX6_carNumbered, Cond.instanceMethod yX6_carNumbered, Cond.selects RX6 yX6_carNumbered yX6_carNumbered, Cond.code yX6_carNumbered cX6_carNumbered 2 (some (.object "Ghostracer$Car")), Cond.fieldLink RX6 95 "Ghostracer" "carCount" "I", Cond.fieldLink RX6 17 "Ghostracer" "cars" "[LGhostracer$Car;", Cond.methodLink RX6 185 yX3_follow, Cond.instanceMethod yX3_follow, Cond.selects RX3 yX3_follow yX3_follow, Cond.initialized RX3, Cond.code yX3_follow cX3_follow 6 none, Cond.fieldLink RX3 7 "Ghostracer$Ride" "place" "I", Cond.fieldLink RX3 13 "Ghostracer$Ride" "speed" "I", Cond.fieldLink RX3 16 "Ghostracer$Ride" "ticks" "I", Cond.fieldLink RX3 19 "Ghostracer$Ride" "time" "I", Cond.fieldLink RX3 22 "Ghostracer$Ride" "isOver" "Z", Cond.methodLink RX3 26 yX3_move, Cond.instanceMethod yX3_move, Cond.selects RX3 yX3_move yX3_move, Cond.code yX3_move cX3_move 4 none, Cond.fieldLink RX3 36 "Ghostracer$Track" "length" "I"]
def wsX6_isSound_r3 : List Cond := [Cond.fieldLink RX3 49 "Ghostracer$Car" "grip" "I", Cond.methodLink RX3 30 yX1_speedAfter, Cond.instanceMethod yX1_speedAfter, Cond.selects RX1 yX1_speedAfter yX1_speedAfter, Cond.initialized RX1, Cond.code yX1_speedAfter cX1_speedAfter 3 (some .int), Cond.fieldLink RX1 7 "Ghostracer$Car" "top" "I", Cond.fieldLink RX1 13 "Ghostracer$Car" "pull" "I", Cond.methodLink RX1 16 Lib.Math.min.name, Cond.static Lib.Math.min.name, Cond.initialized "java/lang/Math", Cond.code Lib.Math.min.name Lib.Math.min.code 2 (some .int), Cond.methodLink RX1 22 Lib.Math.max.name, Cond.static Lib.Math.max.name, Cond.code Lib.Math.max.name Lib.Math.max.code 2 (some .int), Cond.methodLink RX3 41 yX3_finish, Cond.instanceMethod yX3_finish, Cond.selects RX3 yX3_finish yX3_finish, Cond.code yX3_finish cX3_finish 3 none, Cond.methodLink RX3 45 yX5_limitOf, Cond.instanceMethod yX5_limitOf, Cond.selects RX5 yX5_limitOf yX5_limitOf, Cond.initialized RX5, Cond.code yX5_limitOf cX5_limitOf 3 (some .int)]
def wsX6_isSound_r4 : List Cond := [Cond.fieldLink RX5 18 "Ghostracer$Track" "stretches" "I", Cond.fieldLink RX5 9 "Ghostracer$Track" "ends" "[I", Cond.fieldLink RX5 15 "Ghostracer$Track" "limits" "[I", Cond.methodLink RX6 225 yX0_has, Cond.instanceMethod yX0_has, Cond.selects RX0 yX0_has yX0_has, Cond.initialized RX0, Cond.code yX0_has cX0_has 2 (some .boolean), Cond.fieldLink RX0 18 "Ghostracer$Book" "count" "I"]
def wsX6_isSound : List Cond := .code yX6_isSound cX6_isSound 5 (some .boolean) :: ((wsX6_isSound_r1 ++ (wsX6_isSound_r2 ++ (wsX6_isSound_r3 ++ wsX6_isSound_r4))) ++ wsX60 ++ wsX00 ++ wsX20 ++ wsX30 ++ wsX50 ++ wsX10 ++ (vx_atS RX6 293 "java/lang/IndexOutOfBoundsException" ["java/lang/RuntimeException", "java/lang/Exception"]).filter goodWord)
def wsX7_init_r1 : List Cond := [Cond.methodLink RX7 1 objectInit, Cond.instanceMethod objectInit, Cond.code objectInit ⟨#[0xb1]⟩ 1 none, Cond.arrayClass .int, Cond.fieldLink RX7 7 "GhostracerModel" "stretches" "[I", Cond.fieldLink RX7 13 "GhostracerModel" "length" "[I", Cond.fieldLink RX7 16 "GhostracerModel" "limit" "[I", Cond.fieldLink RX7 19 "GhostracerModel" "top" "[I", Cond.fieldLink RX7 22 "GhostracerModel" "pull" "[I", Cond.fieldLink RX7 25 "GhostracerModel" "grip" "[I", Cond.arrayClass .char, Cond.fieldLink RX7 28 "GhostracerModel" "row" "[C", Cond.fieldLink RX7 32 "GhostracerModel" "input" "[C", Cond.fieldLink RX7 35 "GhostracerModel" "ticks" "[I", Cond.fieldLink RX7 38 "GhostracerModel" "time" "[I", Cond.fieldLink RX7 41 "GhostracerModel" "penalty" "[I", Cond.fieldLink RX7 44 "GhostracerModel" "driver" "[I", Cond.fieldLink RX7 47 "GhostracerModel" "track" "[I", Cond.fieldLink RX7 50 "GhostracerModel" "car" "[I", Cond.fieldLink RX7 53 "GhostracerModel" "ghost" "[I", Cond.fieldLink RX7 56 "GhostracerModel" "round" "[I", Cond.fieldLink RX7 59 "GhostracerModel" "base" "[I", Cond.arrayClass .boolean, Cond.fieldLink RX7 62 "GhostracerModel" "isOut" "[Z"]
def wsX7_init_r2 : List Cond := [Cond.fieldLink RX7 66 "GhostracerModel" "roundTrack" "[I", Cond.fieldLink RX7 69 "GhostracerModel" "counted" "[I"]
def wsX7_init : List Cond := .code yX7_init cX7_init 1 none :: ((wsX7_init_r1 ++ wsX7_init_r2) ++ wsX70)
def wsX7_thrown : List Cond := .code yX7_thrown cX7_thrown 1 (some .int) :: ([.fieldLink RX7 72 "GhostracerModel" "code" "I"] ++ wsX70)
def wsX7_fails : List Cond := .code yX7_fails cX7_fails 2 (some .boolean) :: ([.fieldLink RX7 72 "GhostracerModel" "code" "I"] ++ wsX70)
def wsX7_in : List Cond := .code yX7_in cX7_in 3 (some .boolean) :: ([])
def wsX7_isNoTrack : List Cond := .code yX7_isNoTrack cX7_isNoTrack 2 (some .boolean) :: ([.fieldLink RX7 76 "GhostracerModel" "tracks" "I", .methodLink RX7 79 yX7_in, .static yX7_in, .initialized RX7, .code yX7_in cX7_in 3 (some .boolean)] ++ wsX70)
def wsX7_isNoCar : List Cond := .code yX7_isNoCar cX7_isNoCar 2 (some .boolean) :: ([.fieldLink RX7 83 "GhostracerModel" "cars" "I", .methodLink RX7 79 yX7_in, .static yX7_in, .initialized RX7, .code yX7_in cX7_in 3 (some .boolean)] ++ wsX70)
def wsX7_isNoLap : List Cond := .code yX7_isNoLap cX7_isNoLap 2 (some .boolean) :: ([.fieldLink RX7 86 "GhostracerModel" "laps" "I", .methodLink RX7 79 yX7_in, .static yX7_in, .initialized RX7, .code yX7_in cX7_in 3 (some .boolean)] ++ wsX70)
def wsX7_track : List Cond := .code yX7_track cX7_track 1 (some .int) :: ([.fieldLink RX7 76 "GhostracerModel" "tracks" "I", .methodLink RX7 89 yX7_fails, .instanceMethod yX7_fails, .selects RX7 yX7_fails yX7_fails, .initialized RX7, .code yX7_fails cX7_fails 2 (some .boolean), .fieldLink RX7 72 "GhostracerModel" "code" "I"] ++ wsX70)
def wsX7_lengthNow : List Cond := .code yX7_lengthNow cX7_lengthNow 4 (some .int) :: ([.fieldLink RX7 7 "GhostracerModel" "stretches" "[I", .fieldLink RX7 13 "GhostracerModel" "length" "[I"] ++ wsX70)
def wsX7_stretch : List Cond := .code yX7_stretch cX7_stretch 6 (some .int) :: ([.fieldLink RX7 86 "GhostracerModel" "laps" "I", .fieldLink RX7 47 "GhostracerModel" "track" "[I", .fieldLink RX7 7 "GhostracerModel" "stretches" "[I", .fieldLink RX7 13 "GhostracerModel" "length" "[I", .fieldLink RX7 16 "GhostracerModel" "limit" "[I", .methodLink RX7 93 yX7_isNoTrack, .instanceMethod yX7_isNoTrack, .selects RX7 yX7_isNoTrack yX7_isNoTrack, .initialized RX7, .code yX7_isNoTrack cX7_isNoTrack 2 (some .boolean), .fieldLink RX7 76 "GhostracerModel" "tracks" "I", .methodLink RX7 79 yX7_in, .static yX7_in, .code yX7_in cX7_in 3 (some .boolean), .methodLink RX7 89 yX7_fails, .instanceMethod yX7_fails, .selects RX7 yX7_fails yX7_fails, .code yX7_fails cX7_fails 2 (some .boolean), .fieldLink RX7 72 "GhostracerModel" "code" "I", .methodLink RX7 96 yX7_lengthNow, .instanceMethod yX7_lengthNow, .selects RX7 yX7_lengthNow yX7_lengthNow, .code yX7_lengthNow cX7_lengthNow 4 (some .int)] ++ wsX70)
def wsX7_car : List Cond := .code yX7_car cX7_car 4 (some .int) :: ([.fieldLink RX7 83 "GhostracerModel" "cars" "I", .fieldLink RX7 19 "GhostracerModel" "top" "[I", .fieldLink RX7 22 "GhostracerModel" "pull" "[I", .fieldLink RX7 25 "GhostracerModel" "grip" "[I", .methodLink RX7 79 yX7_in, .static yX7_in, .initialized RX7, .code yX7_in cX7_in 3 (some .boolean), .methodLink RX7 89 yX7_fails, .instanceMethod yX7_fails, .selects RX7 yX7_fails yX7_fails, .code yX7_fails cX7_fails 2 (some .boolean), .fieldLink RX7 72 "GhostracerModel" "code" "I"] ++ wsX70)
def wsX7_lengthOf : List Cond := .code yX7_lengthOf cX7_lengthOf 2 (some .int) :: ([.methodLink RX7 93 yX7_isNoTrack, .instanceMethod yX7_isNoTrack, .selects RX7 yX7_isNoTrack yX7_isNoTrack, .initialized RX7, .code yX7_isNoTrack cX7_isNoTrack 2 (some .boolean), .fieldLink RX7 76 "GhostracerModel" "tracks" "I", .methodLink RX7 79 yX7_in, .static yX7_in, .code yX7_in cX7_in 3 (some .boolean), .methodLink RX7 89 yX7_fails, .instanceMethod yX7_fails, .selects RX7 yX7_fails yX7_fails, .code yX7_fails cX7_fails 2 (some .boolean), .fieldLink RX7 72 "GhostracerModel" "code" "I", .methodLink RX7 96 yX7_lengthNow, .instanceMethod yX7_lengthNow, .selects RX7 yX7_lengthNow yX7_lengthNow, .code yX7_lengthNow cX7_lengthNow 4 (some .int), .fieldLink RX7 7 "GhostracerModel" "stretches" "[I", .fieldLink RX7 13 "GhostracerModel" "length" "[I"] ++ wsX70)
def wsX7_limitNow : List Cond := .code yX7_limitNow cX7_limitNow 5 (some .int) :: ([.fieldLink RX7 13 "GhostracerModel" "length" "[I", .fieldLink RX7 16 "GhostracerModel" "limit" "[I"] ++ wsX70)
def wsX7_limitAt_r1 : List Cond := [Cond.methodLink RX7 93 yX7_isNoTrack, Cond.instanceMethod yX7_isNoTrack, Cond.selects RX7 yX7_isNoTrack yX7_isNoTrack, Cond.initialized RX7, Cond.code yX7_isNoTrack cX7_isNoTrack 2 (some .boolean), Cond.fieldLink RX7 76 "GhostracerModel" "tracks" "I", Cond.methodLink RX7 79 yX7_in, Cond.static yX7_in, Cond.code yX7_in cX7_in 3 (some .boolean), Cond.methodLink RX7 96 yX7_lengthNow, Cond.instanceMethod yX7_lengthNow, Cond.selects RX7 yX7_lengthNow yX7_lengthNow, Cond.code yX7_lengthNow cX7_lengthNow 4 (some .int), Cond.fieldLink RX7 7 "GhostracerModel" "stretches" "[I", Cond.fieldLink RX7 13 "GhostracerModel" "length" "[I", Cond.methodLink RX7 89 yX7_fails, Cond.instanceMethod yX7_fails, Cond.selects RX7 yX7_fails yX7_fails, Cond.code yX7_fails cX7_fails 2 (some .boolean), Cond.fieldLink RX7 72 "GhostracerModel" "code" "I", Cond.methodLink RX7 100 yX7_limitNow, Cond.instanceMethod yX7_limitNow, Cond.selects RX7 yX7_limitNow yX7_limitNow, Cond.code yX7_limitNow cX7_limitNow 5 (some .int)]
def wsX7_limitAt_r2 : List Cond := [Cond.fieldLink RX7 16 "GhostracerModel" "limit" "[I"]
def wsX7_limitAt : List Cond := .code yX7_limitAt cX7_limitAt 3 (some .int) :: ((wsX7_limitAt_r1 ++ wsX7_limitAt_r2) ++ wsX70)
def wsX7_type : List Cond := .code yX7_type cX7_type 5 (some .int) :: ([.fieldLink RX7 104 "GhostracerModel" "typed" "I", .fieldLink RX7 28 "GhostracerModel" "row" "[C", .methodLink RX7 79 yX7_in, .static yX7_in, .initialized RX7, .code yX7_in cX7_in 3 (some .boolean), .methodLink RX7 89 yX7_fails, .instanceMethod yX7_fails, .selects RX7 yX7_fails yX7_fails, .code yX7_fails cX7_fails 2 (some .boolean), .fieldLink RX7 72 "GhostracerModel" "code" "I"] ++ wsX70)
def wsX7_wipe : List Cond := .code yX7_wipe cX7_wipe 2 (some .int) :: ([.fieldLink RX7 72 "GhostracerModel" "code" "I", .fieldLink RX7 104 "GhostracerModel" "typed" "I"] ++ wsX70)
def wsX7_starts : List Cond := .code yX7_starts cX7_starts 1 none :: ([.fieldLink RX7 107 "GhostracerModel" "place" "I", .fieldLink RX7 110 "GhostracerModel" "speed" "I", .fieldLink RX7 113 "GhostracerModel" "tick" "I", .fieldLink RX7 116 "GhostracerModel" "isOver" "Z"] ++ wsX70)
def wsX7_goes : List Cond := .code yX7_goes cX7_goes 4 none :: ([.fieldLink RX7 110 "GhostracerModel" "speed" "I", .fieldLink RX7 22 "GhostracerModel" "pull" "[I", .fieldLink RX7 19 "GhostracerModel" "top" "[I", .fieldLink RX7 107 "GhostracerModel" "place" "I", .fieldLink RX7 113 "GhostracerModel" "tick" "I", .fieldLink RX7 116 "GhostracerModel" "isOver" "Z", .fieldLink RX7 25 "GhostracerModel" "grip" "[I", .methodLink RX7 96 yX7_lengthNow, .instanceMethod yX7_lengthNow, .selects RX7 yX7_lengthNow yX7_lengthNow, .initialized RX7, .code yX7_lengthNow cX7_lengthNow 4 (some .int), .fieldLink RX7 7 "GhostracerModel" "stretches" "[I", .fieldLink RX7 13 "GhostracerModel" "length" "[I", .methodLink RX7 100 yX7_limitNow, .instanceMethod yX7_limitNow, .selects RX7 yX7_limitNow yX7_limitNow, .code yX7_limitNow cX7_limitNow 5 (some .int), .fieldLink RX7 16 "GhostracerModel" "limit" "[I"] ++ wsX70)
def wsX7_drives_r1 : List Cond := [Cond.fieldLink RX7 113 "GhostracerModel" "tick" "I", Cond.fieldLink RX7 104 "GhostracerModel" "typed" "I", Cond.fieldLink RX7 116 "GhostracerModel" "isOver" "Z", Cond.fieldLink RX7 28 "GhostracerModel" "row" "[C", Cond.methodLink RX7 120 yX7_starts, Cond.instanceMethod yX7_starts, Cond.selects RX7 yX7_starts yX7_starts, Cond.initialized RX7, Cond.code yX7_starts cX7_starts 1 none, Cond.fieldLink RX7 107 "GhostracerModel" "place" "I", Cond.fieldLink RX7 110 "GhostracerModel" "speed" "I", Cond.methodLink RX7 123 yX7_goes, Cond.instanceMethod yX7_goes, Cond.selects RX7 yX7_goes yX7_goes, Cond.code yX7_goes cX7_goes 4 none, Cond.fieldLink RX7 22 "GhostracerModel" "pull" "[I", Cond.fieldLink RX7 19 "GhostracerModel" "top" "[I", Cond.fieldLink RX7 25 "GhostracerModel" "grip" "[I", Cond.methodLink RX7 96 yX7_lengthNow, Cond.instanceMethod yX7_lengthNow, Cond.selects RX7 yX7_lengthNow yX7_lengthNow, Cond.code yX7_lengthNow cX7_lengthNow 4 (some .int), Cond.fieldLink RX7 7 "GhostracerModel" "stretches" "[I", Cond.fieldLink RX7 13 "GhostracerModel" "length" "[I"]
def wsX7_drives_r2 : List Cond := [Cond.methodLink RX7 100 yX7_limitNow, Cond.instanceMethod yX7_limitNow, Cond.selects RX7 yX7_limitNow yX7_limitNow, Cond.code yX7_limitNow cX7_limitNow 5 (some .int), Cond.fieldLink RX7 16 "GhostracerModel" "limit" "[I"]
def wsX7_drives : List Cond := .code yX7_drives cX7_drives 3 none :: ((wsX7_drives_r1 ++ wsX7_drives_r2) ++ wsX70)
def wsX7_timeNow : List Cond := .code yX7_timeNow cX7_timeNow 2 (some .int) :: ([.fieldLink RX7 113 "GhostracerModel" "tick" "I", .fieldLink RX7 107 "GhostracerModel" "place" "I", .fieldLink RX7 110 "GhostracerModel" "speed" "I", .methodLink RX7 96 yX7_lengthNow, .instanceMethod yX7_lengthNow, .selects RX7 yX7_lengthNow yX7_lengthNow, .initialized RX7, .code yX7_lengthNow cX7_lengthNow 4 (some .int), .fieldLink RX7 7 "GhostracerModel" "stretches" "[I", .fieldLink RX7 13 "GhostracerModel" "length" "[I"] ++ wsX70)
def wsX7_canDrive_r1 : List Cond := [Cond.fieldLink RX7 7 "GhostracerModel" "stretches" "[I", Cond.fieldLink RX7 116 "GhostracerModel" "isOver" "Z", Cond.methodLink RX7 127 yX7_drives, Cond.instanceMethod yX7_drives, Cond.selects RX7 yX7_drives yX7_drives, Cond.initialized RX7, Cond.code yX7_drives cX7_drives 3 none, Cond.fieldLink RX7 113 "GhostracerModel" "tick" "I", Cond.fieldLink RX7 104 "GhostracerModel" "typed" "I", Cond.fieldLink RX7 28 "GhostracerModel" "row" "[C", Cond.methodLink RX7 120 yX7_starts, Cond.instanceMethod yX7_starts, Cond.selects RX7 yX7_starts yX7_starts, Cond.code yX7_starts cX7_starts 1 none, Cond.fieldLink RX7 107 "GhostracerModel" "place" "I", Cond.fieldLink RX7 110 "GhostracerModel" "speed" "I", Cond.methodLink RX7 123 yX7_goes, Cond.instanceMethod yX7_goes, Cond.selects RX7 yX7_goes yX7_goes, Cond.code yX7_goes cX7_goes 4 none, Cond.fieldLink RX7 22 "GhostracerModel" "pull" "[I", Cond.fieldLink RX7 19 "GhostracerModel" "top" "[I", Cond.fieldLink RX7 25 "GhostracerModel" "grip" "[I", Cond.methodLink RX7 96 yX7_lengthNow]
def wsX7_canDrive_r2 : List Cond := [Cond.instanceMethod yX7_lengthNow, Cond.selects RX7 yX7_lengthNow yX7_lengthNow, Cond.code yX7_lengthNow cX7_lengthNow 4 (some .int), Cond.fieldLink RX7 13 "GhostracerModel" "length" "[I", Cond.methodLink RX7 100 yX7_limitNow, Cond.instanceMethod yX7_limitNow, Cond.selects RX7 yX7_limitNow yX7_limitNow, Cond.code yX7_limitNow cX7_limitNow 5 (some .int), Cond.fieldLink RX7 16 "GhostracerModel" "limit" "[I"]
def wsX7_canDrive : List Cond := .code yX7_canDrive cX7_canDrive 3 (some .boolean) :: ((wsX7_canDrive_r1 ++ wsX7_canDrive_r2) ++ wsX70)
def wsX7_isGhost : List Cond := .code yX7_isGhost cX7_isGhost 3 (some .boolean) :: ([.fieldLink RX7 47 "GhostracerModel" "track" "[I", .fieldLink RX7 62 "GhostracerModel" "isOut" "[Z", .methodLink RX7 131 yX7_isNoLap, .instanceMethod yX7_isNoLap, .selects RX7 yX7_isNoLap yX7_isNoLap, .initialized RX7, .code yX7_isNoLap cX7_isNoLap 2 (some .boolean), .fieldLink RX7 86 "GhostracerModel" "laps" "I", .methodLink RX7 79 yX7_in, .static yX7_in, .code yX7_in cX7_in 3 (some .boolean)] ++ wsX70)
def wsX7_depthOf : List Cond := .code yX7_depthOf cX7_depthOf 4 (some .int) :: ([.fieldLink RX7 59 "GhostracerModel" "base" "[I"] ++ wsX70)
def wsX7_drive_r1 : List Cond := [Cond.fieldLink RX7 86 "GhostracerModel" "laps" "I", Cond.fieldLink RX7 35 "GhostracerModel" "ticks" "[I", Cond.fieldLink RX7 113 "GhostracerModel" "tick" "I", Cond.fieldLink RX7 38 "GhostracerModel" "time" "[I", Cond.fieldLink RX7 32 "GhostracerModel" "input" "[C", Cond.fieldLink RX7 28 "GhostracerModel" "row" "[C", Cond.fieldLink RX7 44 "GhostracerModel" "driver" "[I", Cond.fieldLink RX7 47 "GhostracerModel" "track" "[I", Cond.fieldLink RX7 50 "GhostracerModel" "car" "[I", Cond.fieldLink RX7 53 "GhostracerModel" "ghost" "[I", Cond.fieldLink RX7 56 "GhostracerModel" "round" "[I", Cond.fieldLink RX7 147 "GhostracerModel" "isOpen" "Z", Cond.fieldLink RX7 66 "GhostracerModel" "roundTrack" "[I", Cond.fieldLink RX7 150 "GhostracerModel" "rounds" "I", Cond.fieldLink RX7 59 "GhostracerModel" "base" "[I", Cond.fieldLink RX7 104 "GhostracerModel" "typed" "I", Cond.methodLink RX7 79 yX7_in, Cond.static yX7_in, Cond.initialized RX7, Cond.code yX7_in cX7_in 3 (some .boolean), Cond.methodLink RX7 93 yX7_isNoTrack, Cond.instanceMethod yX7_isNoTrack, Cond.selects RX7 yX7_isNoTrack yX7_isNoTrack, Cond.code yX7_isNoTrack cX7_isNoTrack 2 (some .boolean)]
def wsX7_drive_r2 : List Cond := [Cond.fieldLink RX7 76 "GhostracerModel" "tracks" "I", Cond.methodLink RX7 134 yX7_isNoCar, Cond.instanceMethod yX7_isNoCar, Cond.selects RX7 yX7_isNoCar yX7_isNoCar, Cond.code yX7_isNoCar cX7_isNoCar 2 (some .boolean), Cond.fieldLink RX7 83 "GhostracerModel" "cars" "I", Cond.methodLink RX7 137 yX7_isGhost, Cond.instanceMethod yX7_isGhost, Cond.selects RX7 yX7_isGhost yX7_isGhost, Cond.code yX7_isGhost cX7_isGhost 3 (some .boolean), Cond.fieldLink RX7 62 "GhostracerModel" "isOut" "[Z", Cond.methodLink RX7 131 yX7_isNoLap, Cond.instanceMethod yX7_isNoLap, Cond.selects RX7 yX7_isNoLap yX7_isNoLap, Cond.code yX7_isNoLap cX7_isNoLap 2 (some .boolean), Cond.methodLink RX7 141 yX7_canDrive, Cond.instanceMethod yX7_canDrive, Cond.selects RX7 yX7_canDrive yX7_canDrive, Cond.code yX7_canDrive cX7_canDrive 3 (some .boolean), Cond.fieldLink RX7 7 "GhostracerModel" "stretches" "[I", Cond.fieldLink RX7 116 "GhostracerModel" "isOver" "Z", Cond.methodLink RX7 127 yX7_drives, Cond.instanceMethod yX7_drives, Cond.selects RX7 yX7_drives yX7_drives]
def wsX7_drive_r3 : List Cond := [Cond.code yX7_drives cX7_drives 3 none, Cond.methodLink RX7 120 yX7_starts, Cond.instanceMethod yX7_starts, Cond.selects RX7 yX7_starts yX7_starts, Cond.code yX7_starts cX7_starts 1 none, Cond.fieldLink RX7 107 "GhostracerModel" "place" "I", Cond.fieldLink RX7 110 "GhostracerModel" "speed" "I", Cond.methodLink RX7 123 yX7_goes, Cond.instanceMethod yX7_goes, Cond.selects RX7 yX7_goes yX7_goes, Cond.code yX7_goes cX7_goes 4 none, Cond.fieldLink RX7 22 "GhostracerModel" "pull" "[I", Cond.fieldLink RX7 19 "GhostracerModel" "top" "[I", Cond.fieldLink RX7 25 "GhostracerModel" "grip" "[I", Cond.methodLink RX7 96 yX7_lengthNow, Cond.instanceMethod yX7_lengthNow, Cond.selects RX7 yX7_lengthNow yX7_lengthNow, Cond.code yX7_lengthNow cX7_lengthNow 4 (some .int), Cond.fieldLink RX7 13 "GhostracerModel" "length" "[I", Cond.methodLink RX7 100 yX7_limitNow, Cond.instanceMethod yX7_limitNow, Cond.selects RX7 yX7_limitNow yX7_limitNow, Cond.code yX7_limitNow cX7_limitNow 5 (some .int), Cond.fieldLink RX7 16 "GhostracerModel" "limit" "[I"]
def wsX7_drive_r4 : List Cond := [Cond.methodLink RX7 89 yX7_fails, Cond.instanceMethod yX7_fails, Cond.selects RX7 yX7_fails yX7_fails, Cond.code yX7_fails cX7_fails 2 (some .boolean), Cond.fieldLink RX7 72 "GhostracerModel" "code" "I", Cond.methodLink RX7 144 yX7_timeNow, Cond.instanceMethod yX7_timeNow, Cond.selects RX7 yX7_timeNow yX7_timeNow, Cond.code yX7_timeNow cX7_timeNow 2 (some .int), Cond.methodLink RX7 153 yX7_depthOf, Cond.instanceMethod yX7_depthOf, Cond.selects RX7 yX7_depthOf yX7_depthOf, Cond.code yX7_depthOf cX7_depthOf 4 (some .int)]
def wsX7_drive : List Cond := .code yX7_drive cX7_drive 8 (some .int) :: ((wsX7_drive_r1 ++ (wsX7_drive_r2 ++ (wsX7_drive_r3 ++ wsX7_drive_r4))) ++ wsX70)
def wsX7_tryOut_r1 : List Cond := [Cond.methodLink RX7 93 yX7_isNoTrack, Cond.instanceMethod yX7_isNoTrack, Cond.selects RX7 yX7_isNoTrack yX7_isNoTrack, Cond.initialized RX7, Cond.code yX7_isNoTrack cX7_isNoTrack 2 (some .boolean), Cond.fieldLink RX7 76 "GhostracerModel" "tracks" "I", Cond.methodLink RX7 79 yX7_in, Cond.static yX7_in, Cond.code yX7_in cX7_in 3 (some .boolean), Cond.methodLink RX7 134 yX7_isNoCar, Cond.instanceMethod yX7_isNoCar, Cond.selects RX7 yX7_isNoCar yX7_isNoCar, Cond.code yX7_isNoCar cX7_isNoCar 2 (some .boolean), Cond.fieldLink RX7 83 "GhostracerModel" "cars" "I", Cond.methodLink RX7 141 yX7_canDrive, Cond.instanceMethod yX7_canDrive, Cond.selects RX7 yX7_canDrive yX7_canDrive, Cond.code yX7_canDrive cX7_canDrive 3 (some .boolean), Cond.fieldLink RX7 7 "GhostracerModel" "stretches" "[I", Cond.fieldLink RX7 116 "GhostracerModel" "isOver" "Z", Cond.methodLink RX7 127 yX7_drives, Cond.instanceMethod yX7_drives, Cond.selects RX7 yX7_drives yX7_drives, Cond.code yX7_drives cX7_drives 3 none]
def wsX7_tryOut_r2 : List Cond := [Cond.fieldLink RX7 113 "GhostracerModel" "tick" "I", Cond.fieldLink RX7 104 "GhostracerModel" "typed" "I", Cond.fieldLink RX7 28 "GhostracerModel" "row" "[C", Cond.methodLink RX7 120 yX7_starts, Cond.instanceMethod yX7_starts, Cond.selects RX7 yX7_starts yX7_starts, Cond.code yX7_starts cX7_starts 1 none, Cond.fieldLink RX7 107 "GhostracerModel" "place" "I", Cond.fieldLink RX7 110 "GhostracerModel" "speed" "I", Cond.methodLink RX7 123 yX7_goes, Cond.instanceMethod yX7_goes, Cond.selects RX7 yX7_goes yX7_goes, Cond.code yX7_goes cX7_goes 4 none, Cond.fieldLink RX7 22 "GhostracerModel" "pull" "[I", Cond.fieldLink RX7 19 "GhostracerModel" "top" "[I", Cond.fieldLink RX7 25 "GhostracerModel" "grip" "[I", Cond.methodLink RX7 96 yX7_lengthNow, Cond.instanceMethod yX7_lengthNow, Cond.selects RX7 yX7_lengthNow yX7_lengthNow, Cond.code yX7_lengthNow cX7_lengthNow 4 (some .int), Cond.fieldLink RX7 13 "GhostracerModel" "length" "[I", Cond.methodLink RX7 100 yX7_limitNow, Cond.instanceMethod yX7_limitNow, Cond.selects RX7 yX7_limitNow yX7_limitNow]
def wsX7_tryOut_r3 : List Cond := [Cond.code yX7_limitNow cX7_limitNow 5 (some .int), Cond.fieldLink RX7 16 "GhostracerModel" "limit" "[I", Cond.methodLink RX7 89 yX7_fails, Cond.instanceMethod yX7_fails, Cond.selects RX7 yX7_fails yX7_fails, Cond.code yX7_fails cX7_fails 2 (some .boolean), Cond.fieldLink RX7 72 "GhostracerModel" "code" "I", Cond.methodLink RX7 144 yX7_timeNow, Cond.instanceMethod yX7_timeNow, Cond.selects RX7 yX7_timeNow yX7_timeNow, Cond.code yX7_timeNow cX7_timeNow 2 (some .int)]
def wsX7_tryOut : List Cond := .code yX7_tryOut cX7_tryOut 4 (some .int) :: ((wsX7_tryOut_r1 ++ (wsX7_tryOut_r2 ++ wsX7_tryOut_r3)) ++ wsX70)
def wsX7_laps : List Cond := .code yX7_laps cX7_laps 1 (some .int) :: ([.fieldLink RX7 72 "GhostracerModel" "code" "I", .fieldLink RX7 86 "GhostracerModel" "laps" "I"] ++ wsX70)
def wsX7_countOf : List Cond := .code yX7_countOf cX7_countOf 2 (some .int) :: ([.fieldLink RX7 38 "GhostracerModel" "time" "[I", .fieldLink RX7 41 "GhostracerModel" "penalty" "[I"] ++ wsX70)
def wsX7_time : List Cond := .code yX7_time cX7_time 3 (some .int) :: ([.fieldLink RX7 38 "GhostracerModel" "time" "[I", .methodLink RX7 131 yX7_isNoLap, .instanceMethod yX7_isNoLap, .selects RX7 yX7_isNoLap yX7_isNoLap, .initialized RX7, .code yX7_isNoLap cX7_isNoLap 2 (some .boolean), .fieldLink RX7 86 "GhostracerModel" "laps" "I", .methodLink RX7 79 yX7_in, .static yX7_in, .code yX7_in cX7_in 3 (some .boolean), .methodLink RX7 89 yX7_fails, .instanceMethod yX7_fails, .selects RX7 yX7_fails yX7_fails, .code yX7_fails cX7_fails 2 (some .boolean), .fieldLink RX7 72 "GhostracerModel" "code" "I", .methodLink RX7 156 yX7_countOf, .instanceMethod yX7_countOf, .selects RX7 yX7_countOf yX7_countOf, .code yX7_countOf cX7_countOf 2 (some .int), .fieldLink RX7 41 "GhostracerModel" "penalty" "[I"] ++ wsX70)
def wsX7_ticks : List Cond := .code yX7_ticks cX7_ticks 2 (some .int) :: ([.fieldLink RX7 35 "GhostracerModel" "ticks" "[I", .methodLink RX7 131 yX7_isNoLap, .instanceMethod yX7_isNoLap, .selects RX7 yX7_isNoLap yX7_isNoLap, .initialized RX7, .code yX7_isNoLap cX7_isNoLap 2 (some .boolean), .fieldLink RX7 86 "GhostracerModel" "laps" "I", .methodLink RX7 79 yX7_in, .static yX7_in, .code yX7_in cX7_in 3 (some .boolean), .methodLink RX7 89 yX7_fails, .instanceMethod yX7_fails, .selects RX7 yX7_fails yX7_fails, .code yX7_fails cX7_fails 2 (some .boolean), .fieldLink RX7 72 "GhostracerModel" "code" "I"] ++ wsX70)
def wsX7_inputAt : List Cond := .code yX7_inputAt cX7_inputAt 3 (some .char) :: ([.fieldLink RX7 35 "GhostracerModel" "ticks" "[I", .fieldLink RX7 32 "GhostracerModel" "input" "[C", .methodLink RX7 131 yX7_isNoLap, .instanceMethod yX7_isNoLap, .selects RX7 yX7_isNoLap yX7_isNoLap, .initialized RX7, .code yX7_isNoLap cX7_isNoLap 2 (some .boolean), .fieldLink RX7 86 "GhostracerModel" "laps" "I", .methodLink RX7 79 yX7_in, .static yX7_in, .code yX7_in cX7_in 3 (some .boolean), .methodLink RX7 89 yX7_fails, .instanceMethod yX7_fails, .selects RX7 yX7_fails yX7_fails, .code yX7_fails cX7_fails 2 (some .boolean), .fieldLink RX7 72 "GhostracerModel" "code" "I"] ++ wsX70)
def wsX7_replay_r1 : List Cond := [Cond.fieldLink RX7 35 "GhostracerModel" "ticks" "[I", Cond.fieldLink RX7 113 "GhostracerModel" "tick" "I", Cond.fieldLink RX7 47 "GhostracerModel" "track" "[I", Cond.fieldLink RX7 50 "GhostracerModel" "car" "[I", Cond.fieldLink RX7 32 "GhostracerModel" "input" "[C", Cond.fieldLink RX7 110 "GhostracerModel" "speed" "I", Cond.fieldLink RX7 107 "GhostracerModel" "place" "I", Cond.methodLink RX7 131 yX7_isNoLap, Cond.instanceMethod yX7_isNoLap, Cond.selects RX7 yX7_isNoLap yX7_isNoLap, Cond.initialized RX7, Cond.code yX7_isNoLap cX7_isNoLap 2 (some .boolean), Cond.fieldLink RX7 86 "GhostracerModel" "laps" "I", Cond.methodLink RX7 79 yX7_in, Cond.static yX7_in, Cond.code yX7_in cX7_in 3 (some .boolean), Cond.methodLink RX7 89 yX7_fails, Cond.instanceMethod yX7_fails, Cond.selects RX7 yX7_fails yX7_fails, Cond.code yX7_fails cX7_fails 2 (some .boolean), Cond.fieldLink RX7 72 "GhostracerModel" "code" "I", Cond.methodLink RX7 120 yX7_starts, Cond.instanceMethod yX7_starts, Cond.selects RX7 yX7_starts yX7_starts]
def wsX7_replay_r2 : List Cond := [Cond.code yX7_starts cX7_starts 1 none, Cond.fieldLink RX7 116 "GhostracerModel" "isOver" "Z", Cond.methodLink RX7 123 yX7_goes, Cond.instanceMethod yX7_goes, Cond.selects RX7 yX7_goes yX7_goes, Cond.code yX7_goes cX7_goes 4 none, Cond.fieldLink RX7 22 "GhostracerModel" "pull" "[I", Cond.fieldLink RX7 19 "GhostracerModel" "top" "[I", Cond.fieldLink RX7 25 "GhostracerModel" "grip" "[I", Cond.methodLink RX7 96 yX7_lengthNow, Cond.instanceMethod yX7_lengthNow, Cond.selects RX7 yX7_lengthNow yX7_lengthNow, Cond.code yX7_lengthNow cX7_lengthNow 4 (some .int), Cond.fieldLink RX7 7 "GhostracerModel" "stretches" "[I", Cond.fieldLink RX7 13 "GhostracerModel" "length" "[I", Cond.methodLink RX7 100 yX7_limitNow, Cond.instanceMethod yX7_limitNow, Cond.selects RX7 yX7_limitNow yX7_limitNow, Cond.code yX7_limitNow cX7_limitNow 5 (some .int), Cond.fieldLink RX7 16 "GhostracerModel" "limit" "[I"]
def wsX7_replay : List Cond := .code yX7_replay cX7_replay 4 (some .int) :: ((wsX7_replay_r1 ++ wsX7_replay_r2) ++ wsX70)
def wsX7_of : List Cond := .code yX7_of cX7_of 4 (some .int) :: ([.fieldLink RX7 44 "GhostracerModel" "driver" "[I", .fieldLink RX7 47 "GhostracerModel" "track" "[I", .fieldLink RX7 50 "GhostracerModel" "car" "[I", .fieldLink RX7 53 "GhostracerModel" "ghost" "[I", .fieldLink RX7 56 "GhostracerModel" "round" "[I", .methodLink RX7 131 yX7_isNoLap, .instanceMethod yX7_isNoLap, .selects RX7 yX7_isNoLap yX7_isNoLap, .initialized RX7, .code yX7_isNoLap cX7_isNoLap 2 (some .boolean), .fieldLink RX7 86 "GhostracerModel" "laps" "I", .methodLink RX7 79 yX7_in, .static yX7_in, .code yX7_in cX7_in 3 (some .boolean), .methodLink RX7 89 yX7_fails, .instanceMethod yX7_fails, .selects RX7 yX7_fails yX7_fails, .code yX7_fails cX7_fails 2 (some .boolean), .fieldLink RX7 72 "GhostracerModel" "code" "I"] ++ wsX70)
def wsX7_beats : List Cond := .code yX7_beats cX7_beats 2 (some .boolean) :: ([.fieldLink RX7 53 "GhostracerModel" "ghost" "[I", .methodLink RX7 131 yX7_isNoLap, .instanceMethod yX7_isNoLap, .selects RX7 yX7_isNoLap yX7_isNoLap, .initialized RX7, .code yX7_isNoLap cX7_isNoLap 2 (some .boolean), .fieldLink RX7 86 "GhostracerModel" "laps" "I", .methodLink RX7 79 yX7_in, .static yX7_in, .code yX7_in cX7_in 3 (some .boolean), .methodLink RX7 89 yX7_fails, .instanceMethod yX7_fails, .selects RX7 yX7_fails yX7_fails, .code yX7_fails cX7_fails 2 (some .boolean), .fieldLink RX7 72 "GhostracerModel" "code" "I", .methodLink RX7 156 yX7_countOf, .instanceMethod yX7_countOf, .selects RX7 yX7_countOf yX7_countOf, .code yX7_countOf cX7_countOf 2 (some .int), .fieldLink RX7 38 "GhostracerModel" "time" "[I", .fieldLink RX7 41 "GhostracerModel" "penalty" "[I"] ++ wsX70)
def wsX7_least : List Cond := .code yX7_least cX7_least 5 (some .int) :: ([.fieldLink RX7 86 "GhostracerModel" "laps" "I", .fieldLink RX7 47 "GhostracerModel" "track" "[I", .fieldLink RX7 62 "GhostracerModel" "isOut" "[Z", .methodLink RX7 156 yX7_countOf, .instanceMethod yX7_countOf, .selects RX7 yX7_countOf yX7_countOf, .initialized RX7, .code yX7_countOf cX7_countOf 2 (some .int), .fieldLink RX7 38 "GhostracerModel" "time" "[I", .fieldLink RX7 41 "GhostracerModel" "penalty" "[I", .methodLink RX7 93 yX7_isNoTrack, .instanceMethod yX7_isNoTrack, .selects RX7 yX7_isNoTrack yX7_isNoTrack, .code yX7_isNoTrack cX7_isNoTrack 2 (some .boolean), .fieldLink RX7 76 "GhostracerModel" "tracks" "I", .methodLink RX7 79 yX7_in, .static yX7_in, .code yX7_in cX7_in 3 (some .boolean), .methodLink RX7 89 yX7_fails, .instanceMethod yX7_fails, .selects RX7 yX7_fails yX7_fails, .code yX7_fails cX7_fails 2 (some .boolean), .fieldLink RX7 72 "GhostracerModel" "code" "I"] ++ wsX70)
def wsX7_partsOf : List Cond := .code yX7_partsOf cX7_partsOf 4 (some .int) :: ([.fieldLink RX7 59 "GhostracerModel" "base" "[I", .fieldLink RX7 35 "GhostracerModel" "ticks" "[I", .fieldLink RX7 32 "GhostracerModel" "input" "[C"] ++ wsX70)
def wsX7_base : List Cond := .code yX7_base cX7_base 2 (some .int) :: ([.fieldLink RX7 59 "GhostracerModel" "base" "[I", .methodLink RX7 131 yX7_isNoLap, .instanceMethod yX7_isNoLap, .selects RX7 yX7_isNoLap yX7_isNoLap, .initialized RX7, .code yX7_isNoLap cX7_isNoLap 2 (some .boolean), .fieldLink RX7 86 "GhostracerModel" "laps" "I", .methodLink RX7 79 yX7_in, .static yX7_in, .code yX7_in cX7_in 3 (some .boolean), .methodLink RX7 89 yX7_fails, .instanceMethod yX7_fails, .selects RX7 yX7_fails yX7_fails, .code yX7_fails cX7_fails 2 (some .boolean), .fieldLink RX7 72 "GhostracerModel" "code" "I"] ++ wsX70)
def wsX7_depth : List Cond := .code yX7_depth cX7_depth 2 (some .int) :: ([.methodLink RX7 131 yX7_isNoLap, .instanceMethod yX7_isNoLap, .selects RX7 yX7_isNoLap yX7_isNoLap, .initialized RX7, .code yX7_isNoLap cX7_isNoLap 2 (some .boolean), .fieldLink RX7 86 "GhostracerModel" "laps" "I", .methodLink RX7 79 yX7_in, .static yX7_in, .code yX7_in cX7_in 3 (some .boolean), .methodLink RX7 89 yX7_fails, .instanceMethod yX7_fails, .selects RX7 yX7_fails yX7_fails, .code yX7_fails cX7_fails 2 (some .boolean), .fieldLink RX7 72 "GhostracerModel" "code" "I", .methodLink RX7 153 yX7_depthOf, .instanceMethod yX7_depthOf, .selects RX7 yX7_depthOf yX7_depthOf, .code yX7_depthOf cX7_depthOf 4 (some .int), .fieldLink RX7 59 "GhostracerModel" "base" "[I"] ++ wsX70)
def wsX7_parts : List Cond := .code yX7_parts cX7_parts 2 (some .int) :: ([.methodLink RX7 131 yX7_isNoLap, .instanceMethod yX7_isNoLap, .selects RX7 yX7_isNoLap yX7_isNoLap, .initialized RX7, .code yX7_isNoLap cX7_isNoLap 2 (some .boolean), .fieldLink RX7 86 "GhostracerModel" "laps" "I", .methodLink RX7 79 yX7_in, .static yX7_in, .code yX7_in cX7_in 3 (some .boolean), .methodLink RX7 89 yX7_fails, .instanceMethod yX7_fails, .selects RX7 yX7_fails yX7_fails, .code yX7_fails cX7_fails 2 (some .boolean), .fieldLink RX7 72 "GhostracerModel" "code" "I", .methodLink RX7 159 yX7_partsOf, .instanceMethod yX7_partsOf, .selects RX7 yX7_partsOf yX7_partsOf, .code yX7_partsOf cX7_partsOf 4 (some .int), .fieldLink RX7 59 "GhostracerModel" "base" "[I", .fieldLink RX7 35 "GhostracerModel" "ticks" "[I", .fieldLink RX7 32 "GhostracerModel" "input" "[C"] ++ wsX70)
def wsX7_allParts : List Cond := .code yX7_allParts cX7_allParts 3 (some .int) :: ([.fieldLink RX7 86 "GhostracerModel" "laps" "I", .methodLink RX7 159 yX7_partsOf, .instanceMethod yX7_partsOf, .selects RX7 yX7_partsOf yX7_partsOf, .initialized RX7, .code yX7_partsOf cX7_partsOf 4 (some .int), .fieldLink RX7 59 "GhostracerModel" "base" "[I", .fieldLink RX7 35 "GhostracerModel" "ticks" "[I", .fieldLink RX7 32 "GhostracerModel" "input" "[C"] ++ wsX70)
def wsX7_stored : List Cond := .code yX7_stored cX7_stored 1 (some .int) :: ([.fieldLink RX7 72 "GhostracerModel" "code" "I", .methodLink RX7 162 yX7_allParts, .instanceMethod yX7_allParts, .selects RX7 yX7_allParts yX7_allParts, .initialized RX7, .code yX7_allParts cX7_allParts 3 (some .int), .fieldLink RX7 86 "GhostracerModel" "laps" "I", .methodLink RX7 159 yX7_partsOf, .instanceMethod yX7_partsOf, .selects RX7 yX7_partsOf yX7_partsOf, .code yX7_partsOf cX7_partsOf 4 (some .int), .fieldLink RX7 59 "GhostracerModel" "base" "[I", .fieldLink RX7 35 "GhostracerModel" "ticks" "[I", .fieldLink RX7 32 "GhostracerModel" "input" "[C"] ++ wsX70)
def wsX7_rests : List Cond := .code yX7_rests cX7_rests 4 (some .boolean) :: ([.fieldLink RX7 59 "GhostracerModel" "base" "[I"] ++ wsX70)
def wsX7_resting : List Cond := .code yX7_resting cX7_resting 4 (some .int) :: ([.fieldLink RX7 86 "GhostracerModel" "laps" "I", .methodLink RX7 131 yX7_isNoLap, .instanceMethod yX7_isNoLap, .selects RX7 yX7_isNoLap yX7_isNoLap, .initialized RX7, .code yX7_isNoLap cX7_isNoLap 2 (some .boolean), .methodLink RX7 79 yX7_in, .static yX7_in, .code yX7_in cX7_in 3 (some .boolean), .methodLink RX7 89 yX7_fails, .instanceMethod yX7_fails, .selects RX7 yX7_fails yX7_fails, .code yX7_fails cX7_fails 2 (some .boolean), .fieldLink RX7 72 "GhostracerModel" "code" "I", .methodLink RX7 166 yX7_rests, .instanceMethod yX7_rests, .selects RX7 yX7_rests yX7_rests, .code yX7_rests cX7_rests 4 (some .boolean), .fieldLink RX7 59 "GhostracerModel" "base" "[I"] ++ wsX70)
def wsX7_strike : List Cond := .code yX7_strike cX7_strike 4 (some .int) :: ([.fieldLink RX7 62 "GhostracerModel" "isOut" "[Z", .fieldLink RX7 86 "GhostracerModel" "laps" "I", .fieldLink RX7 59 "GhostracerModel" "base" "[I", .methodLink RX7 131 yX7_isNoLap, .instanceMethod yX7_isNoLap, .selects RX7 yX7_isNoLap yX7_isNoLap, .initialized RX7, .code yX7_isNoLap cX7_isNoLap 2 (some .boolean), .methodLink RX7 79 yX7_in, .static yX7_in, .code yX7_in cX7_in 3 (some .boolean), .methodLink RX7 89 yX7_fails, .instanceMethod yX7_fails, .selects RX7 yX7_fails yX7_fails, .code yX7_fails cX7_fails 2 (some .boolean), .fieldLink RX7 72 "GhostracerModel" "code" "I"] ++ wsX70)
def wsX7_giveBack : List Cond := .code yX7_giveBack cX7_giveBack 4 (some .int) :: ([.fieldLink RX7 62 "GhostracerModel" "isOut" "[Z", .fieldLink RX7 86 "GhostracerModel" "laps" "I", .methodLink RX7 131 yX7_isNoLap, .instanceMethod yX7_isNoLap, .selects RX7 yX7_isNoLap yX7_isNoLap, .initialized RX7, .code yX7_isNoLap cX7_isNoLap 2 (some .boolean), .methodLink RX7 79 yX7_in, .static yX7_in, .code yX7_in cX7_in 3 (some .boolean), .methodLink RX7 89 yX7_fails, .instanceMethod yX7_fails, .selects RX7 yX7_fails yX7_fails, .code yX7_fails cX7_fails 2 (some .boolean), .fieldLink RX7 72 "GhostracerModel" "code" "I"] ++ wsX70)
def wsX7_stands : List Cond := .code yX7_stands cX7_stands 2 (some .boolean) :: ([.fieldLink RX7 62 "GhostracerModel" "isOut" "[Z", .methodLink RX7 131 yX7_isNoLap, .instanceMethod yX7_isNoLap, .selects RX7 yX7_isNoLap yX7_isNoLap, .initialized RX7, .code yX7_isNoLap cX7_isNoLap 2 (some .boolean), .fieldLink RX7 86 "GhostracerModel" "laps" "I", .methodLink RX7 79 yX7_in, .static yX7_in, .code yX7_in cX7_in 3 (some .boolean), .methodLink RX7 89 yX7_fails, .instanceMethod yX7_fails, .selects RX7 yX7_fails yX7_fails, .code yX7_fails cX7_fails 2 (some .boolean), .fieldLink RX7 72 "GhostracerModel" "code" "I"] ++ wsX70)
def wsX7_penalty : List Cond := .code yX7_penalty cX7_penalty 4 (some .int) :: ([.fieldLink RX7 41 "GhostracerModel" "penalty" "[I", .methodLink RX7 131 yX7_isNoLap, .instanceMethod yX7_isNoLap, .selects RX7 yX7_isNoLap yX7_isNoLap, .initialized RX7, .code yX7_isNoLap cX7_isNoLap 2 (some .boolean), .fieldLink RX7 86 "GhostracerModel" "laps" "I", .methodLink RX7 79 yX7_in, .static yX7_in, .code yX7_in cX7_in 3 (some .boolean), .methodLink RX7 89 yX7_fails, .instanceMethod yX7_fails, .selects RX7 yX7_fails yX7_fails, .code yX7_fails cX7_fails 2 (some .boolean), .fieldLink RX7 72 "GhostracerModel" "code" "I"] ++ wsX70)
def wsX7_round : List Cond := .code yX7_round cX7_round 2 (some .int) :: ([.fieldLink RX7 150 "GhostracerModel" "rounds" "I", .fieldLink RX7 66 "GhostracerModel" "roundTrack" "[I", .fieldLink RX7 147 "GhostracerModel" "isOpen" "Z", .methodLink RX7 93 yX7_isNoTrack, .instanceMethod yX7_isNoTrack, .selects RX7 yX7_isNoTrack yX7_isNoTrack, .initialized RX7, .code yX7_isNoTrack cX7_isNoTrack 2 (some .boolean), .fieldLink RX7 76 "GhostracerModel" "tracks" "I", .methodLink RX7 79 yX7_in, .static yX7_in, .code yX7_in cX7_in 3 (some .boolean), .methodLink RX7 89 yX7_fails, .instanceMethod yX7_fails, .selects RX7 yX7_fails yX7_fails, .code yX7_fails cX7_fails 2 (some .boolean), .fieldLink RX7 72 "GhostracerModel" "code" "I"] ++ wsX70)
def wsX7_shut : List Cond := .code yX7_shut cX7_shut 1 (some .int) :: ([.fieldLink RX7 147 "GhostracerModel" "isOpen" "Z", .fieldLink RX7 150 "GhostracerModel" "rounds" "I", .methodLink RX7 89 yX7_fails, .instanceMethod yX7_fails, .selects RX7 yX7_fails yX7_fails, .initialized RX7, .code yX7_fails cX7_fails 2 (some .boolean), .fieldLink RX7 72 "GhostracerModel" "code" "I"] ++ wsX70)
def wsX7_lapNow : List Cond := .code yX7_lapNow cX7_lapNow 6 (some .int) :: ([.fieldLink RX7 86 "GhostracerModel" "laps" "I", .fieldLink RX7 56 "GhostracerModel" "round" "[I", .fieldLink RX7 44 "GhostracerModel" "driver" "[I", .fieldLink RX7 62 "GhostracerModel" "isOut" "[Z", .methodLink RX7 156 yX7_countOf, .instanceMethod yX7_countOf, .selects RX7 yX7_countOf yX7_countOf, .initialized RX7, .code yX7_countOf cX7_countOf 2 (some .int), .fieldLink RX7 38 "GhostracerModel" "time" "[I", .fieldLink RX7 41 "GhostracerModel" "penalty" "[I"] ++ wsX70)
def wsX7_isNoSeat : List Cond := .code yX7_isNoSeat cX7_isNoSeat 3 (some .boolean) :: ([.fieldLink RX7 150 "GhostracerModel" "rounds" "I", .methodLink RX7 79 yX7_in, .static yX7_in, .initialized RX7, .code yX7_in cX7_in 3 (some .boolean)] ++ wsX70)
def wsX7_lapIn_r1 : List Cond := [Cond.methodLink RX7 169 yX7_lapNow, Cond.instanceMethod yX7_lapNow, Cond.selects RX7 yX7_lapNow yX7_lapNow, Cond.initialized RX7, Cond.code yX7_lapNow cX7_lapNow 6 (some .int), Cond.fieldLink RX7 86 "GhostracerModel" "laps" "I", Cond.fieldLink RX7 56 "GhostracerModel" "round" "[I", Cond.fieldLink RX7 44 "GhostracerModel" "driver" "[I", Cond.fieldLink RX7 62 "GhostracerModel" "isOut" "[Z", Cond.methodLink RX7 156 yX7_countOf, Cond.instanceMethod yX7_countOf, Cond.selects RX7 yX7_countOf yX7_countOf, Cond.code yX7_countOf cX7_countOf 2 (some .int), Cond.fieldLink RX7 38 "GhostracerModel" "time" "[I", Cond.fieldLink RX7 41 "GhostracerModel" "penalty" "[I", Cond.methodLink RX7 172 yX7_isNoSeat, Cond.instanceMethod yX7_isNoSeat, Cond.selects RX7 yX7_isNoSeat yX7_isNoSeat, Cond.code yX7_isNoSeat cX7_isNoSeat 3 (some .boolean), Cond.fieldLink RX7 150 "GhostracerModel" "rounds" "I", Cond.methodLink RX7 79 yX7_in, Cond.static yX7_in, Cond.code yX7_in cX7_in 3 (some .boolean), Cond.methodLink RX7 89 yX7_fails]
def wsX7_lapIn_r2 : List Cond := [Cond.instanceMethod yX7_fails, Cond.selects RX7 yX7_fails yX7_fails, Cond.code yX7_fails cX7_fails 2 (some .boolean), Cond.fieldLink RX7 72 "GhostracerModel" "code" "I"]
def wsX7_lapIn : List Cond := .code yX7_lapIn cX7_lapIn 4 (some .int) :: ((wsX7_lapIn_r1 ++ wsX7_lapIn_r2) ++ wsX70)
def wsX7_placeNow : List Cond := .code yX7_placeNow cX7_placeNow 7 (some .int) :: ([.methodLink RX7 169 yX7_lapNow, .instanceMethod yX7_lapNow, .selects RX7 yX7_lapNow yX7_lapNow, .initialized RX7, .code yX7_lapNow cX7_lapNow 6 (some .int), .fieldLink RX7 86 "GhostracerModel" "laps" "I", .fieldLink RX7 56 "GhostracerModel" "round" "[I", .fieldLink RX7 44 "GhostracerModel" "driver" "[I", .fieldLink RX7 62 "GhostracerModel" "isOut" "[Z", .methodLink RX7 156 yX7_countOf, .instanceMethod yX7_countOf, .selects RX7 yX7_countOf yX7_countOf, .code yX7_countOf cX7_countOf 2 (some .int), .fieldLink RX7 38 "GhostracerModel" "time" "[I", .fieldLink RX7 41 "GhostracerModel" "penalty" "[I"] ++ wsX70)
def wsX7_placeIn_r1 : List Cond := [Cond.methodLink RX7 172 yX7_isNoSeat, Cond.instanceMethod yX7_isNoSeat, Cond.selects RX7 yX7_isNoSeat yX7_isNoSeat, Cond.initialized RX7, Cond.code yX7_isNoSeat cX7_isNoSeat 3 (some .boolean), Cond.fieldLink RX7 150 "GhostracerModel" "rounds" "I", Cond.methodLink RX7 79 yX7_in, Cond.static yX7_in, Cond.code yX7_in cX7_in 3 (some .boolean), Cond.methodLink RX7 175 yX7_placeNow, Cond.instanceMethod yX7_placeNow, Cond.selects RX7 yX7_placeNow yX7_placeNow, Cond.code yX7_placeNow cX7_placeNow 7 (some .int), Cond.methodLink RX7 169 yX7_lapNow, Cond.instanceMethod yX7_lapNow, Cond.selects RX7 yX7_lapNow yX7_lapNow, Cond.code yX7_lapNow cX7_lapNow 6 (some .int), Cond.fieldLink RX7 86 "GhostracerModel" "laps" "I", Cond.fieldLink RX7 56 "GhostracerModel" "round" "[I", Cond.fieldLink RX7 44 "GhostracerModel" "driver" "[I", Cond.fieldLink RX7 62 "GhostracerModel" "isOut" "[Z", Cond.methodLink RX7 156 yX7_countOf, Cond.instanceMethod yX7_countOf, Cond.selects RX7 yX7_countOf yX7_countOf]
def wsX7_placeIn_r2 : List Cond := [Cond.code yX7_countOf cX7_countOf 2 (some .int), Cond.fieldLink RX7 38 "GhostracerModel" "time" "[I", Cond.fieldLink RX7 41 "GhostracerModel" "penalty" "[I", Cond.methodLink RX7 89 yX7_fails, Cond.instanceMethod yX7_fails, Cond.selects RX7 yX7_fails yX7_fails, Cond.code yX7_fails cX7_fails 2 (some .boolean), Cond.fieldLink RX7 72 "GhostracerModel" "code" "I"]
def wsX7_placeIn : List Cond := .code yX7_placeIn cX7_placeIn 4 (some .int) :: ((wsX7_placeIn_r1 ++ wsX7_placeIn_r2) ++ wsX70)
def wsX7_drop : List Cond := .code yX7_drop cX7_drop 3 (some .int) :: ([.fieldLink RX7 178 "GhostracerModel" "dropped" "I", .methodLink RX7 79 yX7_in, .static yX7_in, .initialized RX7, .code yX7_in cX7_in 3 (some .boolean), .methodLink RX7 89 yX7_fails, .instanceMethod yX7_fails, .selects RX7 yX7_fails yX7_fails, .code yX7_fails cX7_fails 2 (some .boolean), .fieldLink RX7 72 "GhostracerModel" "code" "I"] ++ wsX70)
def wsX7_worth : List Cond := .code yX7_worth cX7_worth 1 (some .int) :: ([])
def wsX7_pointsOf_r1 : List Cond := [Cond.fieldLink RX7 150 "GhostracerModel" "rounds" "I", Cond.fieldLink RX7 69 "GhostracerModel" "counted" "[I", Cond.fieldLink RX7 178 "GhostracerModel" "dropped" "I", Cond.methodLink RX7 175 yX7_placeNow, Cond.instanceMethod yX7_placeNow, Cond.selects RX7 yX7_placeNow yX7_placeNow, Cond.initialized RX7, Cond.code yX7_placeNow cX7_placeNow 7 (some .int), Cond.methodLink RX7 169 yX7_lapNow, Cond.instanceMethod yX7_lapNow, Cond.selects RX7 yX7_lapNow yX7_lapNow, Cond.code yX7_lapNow cX7_lapNow 6 (some .int), Cond.fieldLink RX7 86 "GhostracerModel" "laps" "I", Cond.fieldLink RX7 56 "GhostracerModel" "round" "[I", Cond.fieldLink RX7 44 "GhostracerModel" "driver" "[I", Cond.fieldLink RX7 62 "GhostracerModel" "isOut" "[Z", Cond.methodLink RX7 156 yX7_countOf, Cond.instanceMethod yX7_countOf, Cond.selects RX7 yX7_countOf yX7_countOf, Cond.code yX7_countOf cX7_countOf 2 (some .int), Cond.fieldLink RX7 38 "GhostracerModel" "time" "[I", Cond.fieldLink RX7 41 "GhostracerModel" "penalty" "[I", Cond.methodLink RX7 181 yX7_worth, Cond.static yX7_worth]
def wsX7_pointsOf_r2 : List Cond := [Cond.code yX7_worth cX7_worth 1 (some .int)]
def wsX7_pointsOf : List Cond := .code yX7_pointsOf cX7_pointsOf 6 (some .int) :: ((wsX7_pointsOf_r1 ++ wsX7_pointsOf_r2) ++ wsX70)
def wsX7_winsOf : List Cond := .code yX7_winsOf cX7_winsOf 4 (some .int) :: ([.fieldLink RX7 150 "GhostracerModel" "rounds" "I", .methodLink RX7 175 yX7_placeNow, .instanceMethod yX7_placeNow, .selects RX7 yX7_placeNow yX7_placeNow, .initialized RX7, .code yX7_placeNow cX7_placeNow 7 (some .int), .methodLink RX7 169 yX7_lapNow, .instanceMethod yX7_lapNow, .selects RX7 yX7_lapNow yX7_lapNow, .code yX7_lapNow cX7_lapNow 6 (some .int), .fieldLink RX7 86 "GhostracerModel" "laps" "I", .fieldLink RX7 56 "GhostracerModel" "round" "[I", .fieldLink RX7 44 "GhostracerModel" "driver" "[I", .fieldLink RX7 62 "GhostracerModel" "isOut" "[Z", .methodLink RX7 156 yX7_countOf, .instanceMethod yX7_countOf, .selects RX7 yX7_countOf yX7_countOf, .code yX7_countOf cX7_countOf 2 (some .int), .fieldLink RX7 38 "GhostracerModel" "time" "[I", .fieldLink RX7 41 "GhostracerModel" "penalty" "[I"] ++ wsX70)
def wsX7_isNoDriver : List Cond := .code yX7_isNoDriver cX7_isNoDriver 1 (some .boolean) :: ([.methodLink RX7 79 yX7_in, .static yX7_in, .initialized RX7, .code yX7_in cX7_in 3 (some .boolean)])
def wsX7_points_r1 : List Cond := [Cond.methodLink RX7 184 yX7_isNoDriver, Cond.static yX7_isNoDriver, Cond.initialized RX7, Cond.code yX7_isNoDriver cX7_isNoDriver 1 (some .boolean), Cond.methodLink RX7 79 yX7_in, Cond.static yX7_in, Cond.code yX7_in cX7_in 3 (some .boolean), Cond.methodLink RX7 89 yX7_fails, Cond.instanceMethod yX7_fails, Cond.selects RX7 yX7_fails yX7_fails, Cond.code yX7_fails cX7_fails 2 (some .boolean), Cond.fieldLink RX7 72 "GhostracerModel" "code" "I", Cond.methodLink RX7 187 yX7_pointsOf, Cond.instanceMethod yX7_pointsOf, Cond.selects RX7 yX7_pointsOf yX7_pointsOf, Cond.code yX7_pointsOf cX7_pointsOf 6 (some .int), Cond.fieldLink RX7 150 "GhostracerModel" "rounds" "I", Cond.fieldLink RX7 69 "GhostracerModel" "counted" "[I", Cond.fieldLink RX7 178 "GhostracerModel" "dropped" "I", Cond.methodLink RX7 175 yX7_placeNow, Cond.instanceMethod yX7_placeNow, Cond.selects RX7 yX7_placeNow yX7_placeNow, Cond.code yX7_placeNow cX7_placeNow 7 (some .int), Cond.methodLink RX7 169 yX7_lapNow]
def wsX7_points_r2 : List Cond := [Cond.instanceMethod yX7_lapNow, Cond.selects RX7 yX7_lapNow yX7_lapNow, Cond.code yX7_lapNow cX7_lapNow 6 (some .int), Cond.fieldLink RX7 86 "GhostracerModel" "laps" "I", Cond.fieldLink RX7 56 "GhostracerModel" "round" "[I", Cond.fieldLink RX7 44 "GhostracerModel" "driver" "[I", Cond.fieldLink RX7 62 "GhostracerModel" "isOut" "[Z", Cond.methodLink RX7 156 yX7_countOf, Cond.instanceMethod yX7_countOf, Cond.selects RX7 yX7_countOf yX7_countOf, Cond.code yX7_countOf cX7_countOf 2 (some .int), Cond.fieldLink RX7 38 "GhostracerModel" "time" "[I", Cond.fieldLink RX7 41 "GhostracerModel" "penalty" "[I", Cond.methodLink RX7 181 yX7_worth, Cond.static yX7_worth, Cond.code yX7_worth cX7_worth 1 (some .int)]
def wsX7_points : List Cond := .code yX7_points cX7_points 2 (some .int) :: ((wsX7_points_r1 ++ wsX7_points_r2) ++ wsX70)
def wsX7_wins_r1 : List Cond := [Cond.methodLink RX7 184 yX7_isNoDriver, Cond.static yX7_isNoDriver, Cond.initialized RX7, Cond.code yX7_isNoDriver cX7_isNoDriver 1 (some .boolean), Cond.methodLink RX7 79 yX7_in, Cond.static yX7_in, Cond.code yX7_in cX7_in 3 (some .boolean), Cond.methodLink RX7 89 yX7_fails, Cond.instanceMethod yX7_fails, Cond.selects RX7 yX7_fails yX7_fails, Cond.code yX7_fails cX7_fails 2 (some .boolean), Cond.fieldLink RX7 72 "GhostracerModel" "code" "I", Cond.methodLink RX7 190 yX7_winsOf, Cond.instanceMethod yX7_winsOf, Cond.selects RX7 yX7_winsOf yX7_winsOf, Cond.code yX7_winsOf cX7_winsOf 4 (some .int), Cond.fieldLink RX7 150 "GhostracerModel" "rounds" "I", Cond.methodLink RX7 175 yX7_placeNow, Cond.instanceMethod yX7_placeNow, Cond.selects RX7 yX7_placeNow yX7_placeNow, Cond.code yX7_placeNow cX7_placeNow 7 (some .int), Cond.methodLink RX7 169 yX7_lapNow, Cond.instanceMethod yX7_lapNow, Cond.selects RX7 yX7_lapNow yX7_lapNow]
def wsX7_wins_r2 : List Cond := [Cond.code yX7_lapNow cX7_lapNow 6 (some .int), Cond.fieldLink RX7 86 "GhostracerModel" "laps" "I", Cond.fieldLink RX7 56 "GhostracerModel" "round" "[I", Cond.fieldLink RX7 44 "GhostracerModel" "driver" "[I", Cond.fieldLink RX7 62 "GhostracerModel" "isOut" "[Z", Cond.methodLink RX7 156 yX7_countOf, Cond.instanceMethod yX7_countOf, Cond.selects RX7 yX7_countOf yX7_countOf, Cond.code yX7_countOf cX7_countOf 2 (some .int), Cond.fieldLink RX7 38 "GhostracerModel" "time" "[I", Cond.fieldLink RX7 41 "GhostracerModel" "penalty" "[I"]
def wsX7_wins : List Cond := .code yX7_wins cX7_wins 2 (some .int) :: ((wsX7_wins_r1 ++ wsX7_wins_r2) ++ wsX70)
def wsX7_standing_r1 : List Cond := [Cond.methodLink RX7 184 yX7_isNoDriver, Cond.static yX7_isNoDriver, Cond.initialized RX7, Cond.code yX7_isNoDriver cX7_isNoDriver 1 (some .boolean), Cond.methodLink RX7 79 yX7_in, Cond.static yX7_in, Cond.code yX7_in cX7_in 3 (some .boolean), Cond.methodLink RX7 89 yX7_fails, Cond.instanceMethod yX7_fails, Cond.selects RX7 yX7_fails yX7_fails, Cond.code yX7_fails cX7_fails 2 (some .boolean), Cond.fieldLink RX7 72 "GhostracerModel" "code" "I", Cond.methodLink RX7 187 yX7_pointsOf, Cond.instanceMethod yX7_pointsOf, Cond.selects RX7 yX7_pointsOf yX7_pointsOf, Cond.code yX7_pointsOf cX7_pointsOf 6 (some .int), Cond.fieldLink RX7 150 "GhostracerModel" "rounds" "I", Cond.fieldLink RX7 69 "GhostracerModel" "counted" "[I", Cond.fieldLink RX7 178 "GhostracerModel" "dropped" "I", Cond.methodLink RX7 175 yX7_placeNow, Cond.instanceMethod yX7_placeNow, Cond.selects RX7 yX7_placeNow yX7_placeNow, Cond.code yX7_placeNow cX7_placeNow 7 (some .int), Cond.methodLink RX7 169 yX7_lapNow]
def wsX7_standing_r2 : List Cond := [Cond.instanceMethod yX7_lapNow, Cond.selects RX7 yX7_lapNow yX7_lapNow, Cond.code yX7_lapNow cX7_lapNow 6 (some .int), Cond.fieldLink RX7 86 "GhostracerModel" "laps" "I", Cond.fieldLink RX7 56 "GhostracerModel" "round" "[I", Cond.fieldLink RX7 44 "GhostracerModel" "driver" "[I", Cond.fieldLink RX7 62 "GhostracerModel" "isOut" "[Z", Cond.methodLink RX7 156 yX7_countOf, Cond.instanceMethod yX7_countOf, Cond.selects RX7 yX7_countOf yX7_countOf, Cond.code yX7_countOf cX7_countOf 2 (some .int), Cond.fieldLink RX7 38 "GhostracerModel" "time" "[I", Cond.fieldLink RX7 41 "GhostracerModel" "penalty" "[I", Cond.methodLink RX7 181 yX7_worth, Cond.static yX7_worth, Cond.code yX7_worth cX7_worth 1 (some .int), Cond.methodLink RX7 190 yX7_winsOf, Cond.instanceMethod yX7_winsOf, Cond.selects RX7 yX7_winsOf yX7_winsOf, Cond.code yX7_winsOf cX7_winsOf 4 (some .int)]
def wsX7_standing : List Cond := .code yX7_standing cX7_standing 7 (some .int) :: ((wsX7_standing_r1 ++ wsX7_standing_r2) ++ wsX70)
def wsX7_checksum : List Cond := .code yX7_checksum cX7_checksum 4 (some .long) :: ([.fieldLink RX7 72 "GhostracerModel" "code" "I", .constantLong RX7 193 (7), .fieldLink RX7 86 "GhostracerModel" "laps" "I", .constantLong RX7 195 (31), .fieldLink RX7 38 "GhostracerModel" "time" "[I", .fieldLink RX7 41 "GhostracerModel" "penalty" "[I", .fieldLink RX7 62 "GhostracerModel" "isOut" "[Z", .methodLink RX7 159 yX7_partsOf, .instanceMethod yX7_partsOf, .selects RX7 yX7_partsOf yX7_partsOf, .initialized RX7, .code yX7_partsOf cX7_partsOf 4 (some .int), .fieldLink RX7 59 "GhostracerModel" "base" "[I", .fieldLink RX7 35 "GhostracerModel" "ticks" "[I", .fieldLink RX7 32 "GhostracerModel" "input" "[C"] ++ wsX70)
def wsX7_shareStored : List Cond := .code yX7_shareStored cX7_shareStored 3 (some .float) :: ([.fieldLink RX7 86 "GhostracerModel" "laps" "I", .fieldLink RX7 35 "GhostracerModel" "ticks" "[I", .methodLink RX7 89 yX7_fails, .instanceMethod yX7_fails, .selects RX7 yX7_fails yX7_fails, .initialized RX7, .code yX7_fails cX7_fails 2 (some .boolean), .fieldLink RX7 72 "GhostracerModel" "code" "I", .methodLink RX7 162 yX7_allParts, .instanceMethod yX7_allParts, .selects RX7 yX7_allParts yX7_allParts, .code yX7_allParts cX7_allParts 3 (some .int), .methodLink RX7 159 yX7_partsOf, .instanceMethod yX7_partsOf, .selects RX7 yX7_partsOf yX7_partsOf, .code yX7_partsOf cX7_partsOf 4 (some .int), .fieldLink RX7 59 "GhostracerModel" "base" "[I", .fieldLink RX7 32 "GhostracerModel" "input" "[C"] ++ wsX70)
def wsX7_meanTime : List Cond := .code yX7_meanTime cX7_meanTime 4 (some .double) :: ([.fieldLink RX7 86 "GhostracerModel" "laps" "I", .fieldLink RX7 62 "GhostracerModel" "isOut" "[Z", .methodLink RX7 156 yX7_countOf, .instanceMethod yX7_countOf, .selects RX7 yX7_countOf yX7_countOf, .initialized RX7, .code yX7_countOf cX7_countOf 2 (some .int), .fieldLink RX7 38 "GhostracerModel" "time" "[I", .fieldLink RX7 41 "GhostracerModel" "penalty" "[I", .methodLink RX7 89 yX7_fails, .instanceMethod yX7_fails, .selects RX7 yX7_fails yX7_fails, .code yX7_fails cX7_fails 2 (some .boolean), .fieldLink RX7 72 "GhostracerModel" "code" "I"] ++ wsX70)
def wsX7_isSound : List Cond := .code yX7_isSound cX7_isSound 1 (some .boolean) :: ([.fieldLink RX7 72 "GhostracerModel" "code" "I"] ++ wsX70)
def wsJ9_max_7cf53 : List Cond := .code yJ9_max_7cf53 cJ9_max_7cf53 2 (some .int) :: ([])
def wsJ9_min_7cf53 : List Cond := .code yJ9_min_7cf53 cJ9_min_7cf53 2 (some .int) :: ([])
abbrev vwCl : List vw_C := [(RX0, TX0, 2), (RX1, TX1, 3), (RX2, TX2, 13), (RX3, TX3, 5), (RX4, TX4, 8), (RX5, TX5, 5), (RX6, TX6, 9), (RX7, TX7, 32)]
/-! ===== END printed: names ===== -/
end
section
theorem dX0_init_0 : decode cX0_init 0 = .ok (.aload_n 0, 1) := by decide +kernel
theorem dX0_init_1 : decode cX0_init 1 = .ok (.invokespecial 3, 3) := by decide +kernel
theorem dX0_init_4 : decode cX0_init 4 = .ok (.aload_n 0, 1) := by decide +kernel
theorem dX0_init_5 : decode cX0_init 5 = .ok (.bipush 30, 2) := by decide +kernel
theorem dX0_init_7 : decode cX0_init 7 = .ok (.anewarray 9, 3) := by decide +kernel
theorem dX0_init_10 : decode cX0_init 10 = .ok (.putfield 11, 3) := by decide +kernel
theorem dX0_init_13 : decode cX0_init 13 = .ok (.iconst 0, 1) := by decide +kernel
theorem dX0_init_14 : decode cX0_init 14 = .ok (.istore_n 1, 1) := by decide +kernel
theorem dX0_init_15 : decode cX0_init 15 = .ok (.iload_n 1, 1) := by decide +kernel
theorem dX0_init_16 : decode cX0_init 16 = .ok (.bipush 30, 2) := by decide +kernel
theorem dX0_init_18 : decode cX0_init 18 = .ok (.if_icmp .ge 22, 3) := by decide +kernel
theorem dX0_init_21 : decode cX0_init 21 = .ok (.aload_n 0, 1) := by decide +kernel
theorem dX0_init_22 : decode cX0_init 22 = .ok (.getfield 11, 3) := by decide +kernel
theorem dX0_init_25 : decode cX0_init 25 = .ok (.iload_n 1, 1) := by decide +kernel
theorem dX0_init_26 : decode cX0_init 26 = .ok (.new 9, 3) := by decide +kernel
theorem dX0_init_29 : decode cX0_init 29 = .ok (.dup, 1) := by decide +kernel
theorem dX0_init_30 : decode cX0_init 30 = .ok (.invokespecial 17, 3) := by decide +kernel
theorem dX0_init_33 : decode cX0_init 33 = .ok (.aastore, 1) := by decide +kernel
theorem dX0_init_34 : decode cX0_init 34 = .ok (.iinc 1 1, 3) := by decide +kernel
theorem dX0_init_37 : decode cX0_init 37 = .ok (.goto (-22), 3) := by decide +kernel
theorem dX0_init_40 : decode cX0_init 40 = .ok (.return_, 1) := by decide +kernel
theorem dX0_has_0 : decode cX0_has 0 = .ok (.iload_n 1, 1) := by decide +kernel
theorem dX0_has_1 : decode cX0_has 1 = .ok (.ifCond .lt 15, 3) := by decide +kernel
theorem dX0_has_4 : decode cX0_has 4 = .ok (.iload_n 1, 1) := by decide +kernel
theorem dX0_has_5 : decode cX0_has 5 = .ok (.aload_n 0, 1) := by decide +kernel
theorem dX0_has_6 : decode cX0_has 6 = .ok (.getfield 18, 3) := by decide +kernel
theorem dX0_has_9 : decode cX0_has 9 = .ok (.if_icmp .ge 7, 3) := by decide +kernel
theorem dX0_has_12 : decode cX0_has 12 = .ok (.iconst 1, 1) := by decide +kernel
theorem dX0_has_13 : decode cX0_has 13 = .ok (.goto 4, 3) := by decide +kernel
theorem dX0_has_16 : decode cX0_has 16 = .ok (.iconst 0, 1) := by decide +kernel
theorem dX0_has_17 : decode cX0_has 17 = .ok (.ireturn, 1) := by decide +kernel
theorem dX0_hasGhost_0 : decode cX0_hasGhost 0 = .ok (.aload_n 0, 1) := by decide +kernel
theorem dX0_hasGhost_1 : decode cX0_hasGhost 1 = .ok (.iload_n 1, 1) := by decide +kernel
theorem dX0_hasGhost_2 : decode cX0_hasGhost 2 = .ok (.invokevirtual 22, 3) := by decide +kernel
theorem dX0_hasGhost_5 : decode cX0_hasGhost 5 = .ok (.ifCond .eq 32, 3) := by decide +kernel
theorem dX0_hasGhost_8 : decode cX0_hasGhost 8 = .ok (.aload_n 0, 1) := by decide +kernel
theorem dX0_hasGhost_9 : decode cX0_hasGhost 9 = .ok (.getfield 11, 3) := by decide +kernel
theorem dX0_hasGhost_12 : decode cX0_hasGhost 12 = .ok (.iload_n 1, 1) := by decide +kernel
theorem dX0_hasGhost_13 : decode cX0_hasGhost 13 = .ok (.aaload, 1) := by decide +kernel
theorem dX0_hasGhost_14 : decode cX0_hasGhost 14 = .ok (.getfield 26, 3) := by decide +kernel
theorem dX0_hasGhost_17 : decode cX0_hasGhost 17 = .ok (.iload_n 2, 1) := by decide +kernel
theorem dX0_hasGhost_18 : decode cX0_hasGhost 18 = .ok (.if_icmp .ne 19, 3) := by decide +kernel
theorem dX0_hasGhost_21 : decode cX0_hasGhost 21 = .ok (.aload_n 0, 1) := by decide +kernel
theorem dX0_hasGhost_22 : decode cX0_hasGhost 22 = .ok (.getfield 11, 3) := by decide +kernel
theorem dX0_hasGhost_25 : decode cX0_hasGhost 25 = .ok (.iload_n 1, 1) := by decide +kernel
theorem dX0_hasGhost_26 : decode cX0_hasGhost 26 = .ok (.aaload, 1) := by decide +kernel
theorem dX0_hasGhost_27 : decode cX0_hasGhost 27 = .ok (.getfield 29, 3) := by decide +kernel
theorem dX0_hasGhost_30 : decode cX0_hasGhost 30 = .ok (.ifCond .eq 7, 3) := by decide +kernel
theorem dX0_hasGhost_33 : decode cX0_hasGhost 33 = .ok (.iconst 1, 1) := by decide +kernel
theorem dX0_hasGhost_34 : decode cX0_hasGhost 34 = .ok (.goto 4, 3) := by decide +kernel
theorem dX0_hasGhost_37 : decode cX0_hasGhost 37 = .ok (.iconst 0, 1) := by decide +kernel
theorem dX0_hasGhost_38 : decode cX0_hasGhost 38 = .ok (.ireturn, 1) := by decide +kernel
theorem dX0_add_0 : decode cX0_add 0 = .ok (.aload_n 0, 1) := by decide +kernel
theorem dX0_add_1 : decode cX0_add 1 = .ok (.aload_n 1, 1) := by decide +kernel
theorem dX0_add_2 : decode cX0_add 2 = .ok (.getfield 33, 3) := by decide +kernel
theorem dX0_add_5 : decode cX0_add 5 = .ok (.invokevirtual 22, 3) := by decide +kernel
theorem dX0_add_8 : decode cX0_add 8 = .ok (.ifCond .eq 19, 3) := by decide +kernel
theorem dX0_add_11 : decode cX0_add 11 = .ok (.aload_n 0, 1) := by decide +kernel
theorem dX0_add_12 : decode cX0_add 12 = .ok (.getfield 11, 3) := by decide +kernel
theorem dX0_add_15 : decode cX0_add 15 = .ok (.aload_n 1, 1) := by decide +kernel
theorem dX0_add_16 : decode cX0_add 16 = .ok (.getfield 33, 3) := by decide +kernel
theorem dX0_add_19 : decode cX0_add 19 = .ok (.aaload, 1) := by decide +kernel
theorem dX0_add_20 : decode cX0_add 20 = .ok (.getfield 36, 3) := by decide +kernel
theorem dX0_add_23 : decode cX0_add 23 = .ok (.iconst 5, 1) := by decide +kernel
theorem dX0_add_24 : decode cX0_add 24 = .ok (.if_icmp .lt 7, 3) := by decide +kernel
theorem dX0_add_27 : decode cX0_add 27 = .ok (.iconst 1, 1) := by decide +kernel
theorem dX0_add_28 : decode cX0_add 28 = .ok (.goto 4, 3) := by decide +kernel
theorem dX0_add_31 : decode cX0_add 31 = .ok (.iconst 0, 1) := by decide +kernel
theorem dX0_add_32 : decode cX0_add 32 = .ok (.istore_n 2, 1) := by decide +kernel
theorem dX0_add_33 : decode cX0_add 33 = .ok (.aload_n 0, 1) := by decide +kernel
theorem dX0_add_34 : decode cX0_add 34 = .ok (.aload_n 1, 1) := by decide +kernel
theorem dX0_add_35 : decode cX0_add 35 = .ok (.iload_n 2, 1) := by decide +kernel
theorem dX0_add_36 : decode cX0_add 36 = .ok (.ifCond .eq 7, 3) := by decide +kernel
theorem dX0_add_39 : decode cX0_add 39 = .ok (.iconst (-1), 1) := by decide +kernel
theorem dX0_add_40 : decode cX0_add 40 = .ok (.goto 7, 3) := by decide +kernel
theorem dX0_add_43 : decode cX0_add 43 = .ok (.aload_n 1, 1) := by decide +kernel
theorem dX0_add_44 : decode cX0_add 44 = .ok (.getfield 33, 3) := by decide +kernel
theorem dX0_add_47 : decode cX0_add 47 = .ok (.invokevirtual 39, 3) := by decide +kernel
theorem dX0_add_50 : decode cX0_add 50 = .ok (.aload_n 0, 1) := by decide +kernel
theorem dX0_add_51 : decode cX0_add 51 = .ok (.aload_n 1, 1) := by decide +kernel
theorem dX0_add_52 : decode cX0_add 52 = .ok (.invokevirtual 43, 3) := by decide +kernel
theorem dX0_add_55 : decode cX0_add 55 = .ok (.aload_n 0, 1) := by decide +kernel
theorem dX0_add_56 : decode cX0_add 56 = .ok (.dup, 1) := by decide +kernel
theorem dX0_add_57 : decode cX0_add 57 = .ok (.getfield 18, 3) := by decide +kernel
theorem dX0_add_60 : decode cX0_add 60 = .ok (.iconst 1, 1) := by decide +kernel
theorem dX0_add_61 : decode cX0_add 61 = .ok (.iadd, 1) := by decide +kernel
theorem dX0_add_62 : decode cX0_add 62 = .ok (.putfield 18, 3) := by decide +kernel
theorem dX0_add_65 : decode cX0_add 65 = .ok (.return_, 1) := by decide +kernel
theorem dX0_store_0 : decode cX0_store 0 = .ok (.aload_n 1, 1) := by decide +kernel
theorem dX0_store_1 : decode cX0_store 1 = .ok (.iload_n 2, 1) := by decide +kernel
theorem dX0_store_2 : decode cX0_store 2 = .ok (.putfield 47, 3) := by decide +kernel
theorem dX0_store_5 : decode cX0_store 5 = .ok (.aload_n 1, 1) := by decide +kernel
theorem dX0_store_6 : decode cX0_store 6 = .ok (.aload_n 0, 1) := by decide +kernel
theorem dX0_store_7 : decode cX0_store 7 = .ok (.iload_n 2, 1) := by decide +kernel
theorem dX0_store_8 : decode cX0_store 8 = .ok (.invokevirtual 22, 3) := by decide +kernel
theorem dX0_store_11 : decode cX0_store 11 = .ok (.ifCond .eq 16, 3) := by decide +kernel
theorem dX0_store_14 : decode cX0_store 14 = .ok (.aload_n 1, 1) := by decide +kernel
theorem dX0_store_15 : decode cX0_store 15 = .ok (.aload_n 0, 1) := by decide +kernel
theorem dX0_store_16 : decode cX0_store 16 = .ok (.getfield 11, 3) := by decide +kernel
theorem dX0_store_19 : decode cX0_store 19 = .ok (.iload_n 2, 1) := by decide +kernel
theorem dX0_store_20 : decode cX0_store 20 = .ok (.aaload, 1) := by decide +kernel
theorem dX0_store_21 : decode cX0_store 21 = .ok (.invokevirtual 50, 3) := by decide +kernel
theorem dX0_store_24 : decode cX0_store 24 = .ok (.goto 7, 3) := by decide +kernel
theorem dX0_store_27 : decode cX0_store 27 = .ok (.aload_n 1, 1) := by decide +kernel
theorem dX0_store_28 : decode cX0_store 28 = .ok (.getfield 54, 3) := by decide +kernel
theorem dX0_store_31 : decode cX0_store 31 = .ok (.putfield 57, 3) := by decide +kernel
theorem dX0_store_34 : decode cX0_store 34 = .ok (.return_, 1) := by decide +kernel
theorem dX0_settleDepth_0 : decode cX0_settleDepth 0 = .ok (.aload_n 1, 1) := by decide +kernel
theorem dX0_settleDepth_1 : decode cX0_settleDepth 1 = .ok (.aload_n 0, 1) := by decide +kernel
theorem dX0_settleDepth_2 : decode cX0_settleDepth 2 = .ok (.aload_n 1, 1) := by decide +kernel
theorem dX0_settleDepth_3 : decode cX0_settleDepth 3 = .ok (.getfield 47, 3) := by decide +kernel
theorem dX0_settleDepth_6 : decode cX0_settleDepth 6 = .ok (.invokevirtual 22, 3) := by decide +kernel
theorem dX0_settleDepth_9 : decode cX0_settleDepth 9 = .ok (.ifCond .eq 20, 3) := by decide +kernel
theorem dX0_settleDepth_12 : decode cX0_settleDepth 12 = .ok (.aload_n 0, 1) := by decide +kernel
theorem dX0_settleDepth_13 : decode cX0_settleDepth 13 = .ok (.getfield 11, 3) := by decide +kernel
theorem dX0_settleDepth_16 : decode cX0_settleDepth 16 = .ok (.aload_n 1, 1) := by decide +kernel
theorem dX0_settleDepth_17 : decode cX0_settleDepth 17 = .ok (.getfield 47, 3) := by decide +kernel
theorem dX0_settleDepth_20 : decode cX0_settleDepth 20 = .ok (.aaload, 1) := by decide +kernel
theorem dX0_settleDepth_21 : decode cX0_settleDepth 21 = .ok (.getfield 36, 3) := by decide +kernel
theorem dX0_settleDepth_24 : decode cX0_settleDepth 24 = .ok (.iconst 1, 1) := by decide +kernel
theorem dX0_settleDepth_25 : decode cX0_settleDepth 25 = .ok (.iadd, 1) := by decide +kernel
theorem dX0_settleDepth_26 : decode cX0_settleDepth 26 = .ok (.goto 4, 3) := by decide +kernel
theorem dX0_settleDepth_29 : decode cX0_settleDepth 29 = .ok (.iconst 0, 1) := by decide +kernel
theorem dX0_settleDepth_30 : decode cX0_settleDepth 30 = .ok (.putfield 36, 3) := by decide +kernel
theorem dX0_settleDepth_33 : decode cX0_settleDepth 33 = .ok (.return_, 1) := by decide +kernel
theorem dX0_moveFrom_0 : decode cX0_moveFrom 0 = .ok (.iconst 0, 1) := by decide +kernel
theorem dX0_moveFrom_1 : decode cX0_moveFrom 1 = .ok (.istore_n 3, 1) := by decide +kernel
theorem dX0_moveFrom_2 : decode cX0_moveFrom 2 = .ok (.iconst 0, 1) := by decide +kernel
theorem dX0_moveFrom_3 : decode cX0_moveFrom 3 = .ok (.istore 4, 2) := by decide +kernel
theorem dX0_moveFrom_5 : decode cX0_moveFrom 5 = .ok (.iload 4, 2) := by decide +kernel
theorem dX0_moveFrom_7 : decode cX0_moveFrom 7 = .ok (.aload_n 0, 1) := by decide +kernel
theorem dX0_moveFrom_8 : decode cX0_moveFrom 8 = .ok (.getfield 18, 3) := by decide +kernel
theorem dX0_moveFrom_11 : decode cX0_moveFrom 11 = .ok (.if_icmp .ge 49, 3) := by decide +kernel
theorem dX0_moveFrom_14 : decode cX0_moveFrom 14 = .ok (.aload_n 0, 1) := by decide +kernel
theorem dX0_moveFrom_15 : decode cX0_moveFrom 15 = .ok (.getfield 11, 3) := by decide +kernel
theorem dX0_moveFrom_18 : decode cX0_moveFrom 18 = .ok (.iload 4, 2) := by decide +kernel
theorem dX0_moveFrom_20 : decode cX0_moveFrom 20 = .ok (.aaload, 1) := by decide +kernel
theorem dX0_moveFrom_21 : decode cX0_moveFrom 21 = .ok (.getfield 47, 3) := by decide +kernel
theorem dX0_moveFrom_24 : decode cX0_moveFrom 24 = .ok (.iload_n 1, 1) := by decide +kernel
theorem dX0_moveFrom_25 : decode cX0_moveFrom 25 = .ok (.if_icmp .ne 18, 3) := by decide +kernel
theorem dX0_moveFrom_28 : decode cX0_moveFrom 28 = .ok (.aload_n 0, 1) := by decide +kernel
theorem dX0_moveFrom_29 : decode cX0_moveFrom 29 = .ok (.aload_n 0, 1) := by decide +kernel
theorem dX0_moveFrom_30 : decode cX0_moveFrom 30 = .ok (.getfield 11, 3) := by decide +kernel
theorem dX0_moveFrom_33 : decode cX0_moveFrom 33 = .ok (.iload 4, 2) := by decide +kernel
theorem dX0_moveFrom_35 : decode cX0_moveFrom 35 = .ok (.aaload, 1) := by decide +kernel
theorem dX0_moveFrom_36 : decode cX0_moveFrom 36 = .ok (.iload_n 2, 1) := by decide +kernel
theorem dX0_moveFrom_37 : decode cX0_moveFrom 37 = .ok (.invokevirtual 39, 3) := by decide +kernel
theorem dX0_moveFrom_40 : decode cX0_moveFrom 40 = .ok (.iinc 3 1, 3) := by decide +kernel
theorem dX0_moveFrom_43 : decode cX0_moveFrom 43 = .ok (.aload_n 0, 1) := by decide +kernel
theorem dX0_moveFrom_44 : decode cX0_moveFrom 44 = .ok (.aload_n 0, 1) := by decide +kernel
theorem dX0_moveFrom_45 : decode cX0_moveFrom 45 = .ok (.getfield 11, 3) := by decide +kernel
theorem dX0_moveFrom_48 : decode cX0_moveFrom 48 = .ok (.iload 4, 2) := by decide +kernel
theorem dX0_moveFrom_50 : decode cX0_moveFrom 50 = .ok (.aaload, 1) := by decide +kernel
theorem dX0_moveFrom_51 : decode cX0_moveFrom 51 = .ok (.invokevirtual 43, 3) := by decide +kernel
theorem dX0_moveFrom_54 : decode cX0_moveFrom 54 = .ok (.iinc 4 1, 3) := by decide +kernel
theorem dX0_moveFrom_57 : decode cX0_moveFrom 57 = .ok (.goto (-52), 3) := by decide +kernel
theorem dX0_moveFrom_60 : decode cX0_moveFrom 60 = .ok (.iload_n 3, 1) := by decide +kernel
theorem dX0_moveFrom_61 : decode cX0_moveFrom 61 = .ok (.ireturn, 1) := by decide +kernel
theorem dX0_countResting_0 : decode cX0_countResting 0 = .ok (.iconst 0, 1) := by decide +kernel
theorem dX0_countResting_1 : decode cX0_countResting 1 = .ok (.istore_n 2, 1) := by decide +kernel
theorem dX0_countResting_2 : decode cX0_countResting 2 = .ok (.iload_n 1, 1) := by decide +kernel
theorem dX0_countResting_3 : decode cX0_countResting 3 = .ok (.iconst 1, 1) := by decide +kernel
theorem dX0_countResting_4 : decode cX0_countResting 4 = .ok (.iadd, 1) := by decide +kernel
theorem dX0_countResting_5 : decode cX0_countResting 5 = .ok (.istore_n 3, 1) := by decide +kernel
theorem dX0_countResting_6 : decode cX0_countResting 6 = .ok (.iload_n 3, 1) := by decide +kernel
theorem dX0_countResting_7 : decode cX0_countResting 7 = .ok (.aload_n 0, 1) := by decide +kernel
theorem dX0_countResting_8 : decode cX0_countResting 8 = .ok (.getfield 18, 3) := by decide +kernel
theorem dX0_countResting_11 : decode cX0_countResting 11 = .ok (.if_icmp .ge 21, 3) := by decide +kernel
theorem dX0_countResting_14 : decode cX0_countResting 14 = .ok (.aload_n 0, 1) := by decide +kernel
theorem dX0_countResting_15 : decode cX0_countResting 15 = .ok (.iload_n 3, 1) := by decide +kernel
theorem dX0_countResting_16 : decode cX0_countResting 16 = .ok (.iload_n 1, 1) := by decide +kernel
theorem dX0_countResting_17 : decode cX0_countResting 17 = .ok (.invokevirtual 60, 3) := by decide +kernel
theorem dX0_countResting_20 : decode cX0_countResting 20 = .ok (.ifCond .eq 6, 3) := by decide +kernel
theorem dX0_countResting_23 : decode cX0_countResting 23 = .ok (.iinc 2 1, 3) := by decide +kernel
theorem dX0_countResting_26 : decode cX0_countResting 26 = .ok (.iinc 3 1, 3) := by decide +kernel
theorem dX0_countResting_29 : decode cX0_countResting 29 = .ok (.goto (-23), 3) := by decide +kernel
theorem dX0_countResting_32 : decode cX0_countResting 32 = .ok (.iload_n 2, 1) := by decide +kernel
theorem dX0_countResting_33 : decode cX0_countResting 33 = .ok (.ireturn, 1) := by decide +kernel
theorem dX0_restsOn_0 : decode cX0_restsOn 0 = .ok (.iload_n 1, 1) := by decide +kernel
theorem dX0_restsOn_1 : decode cX0_restsOn 1 = .ok (.istore_n 3, 1) := by decide +kernel
theorem dX0_restsOn_2 : decode cX0_restsOn 2 = .ok (.iconst 0, 1) := by decide +kernel
theorem dX0_restsOn_3 : decode cX0_restsOn 3 = .ok (.istore 4, 2) := by decide +kernel
theorem dX0_restsOn_5 : decode cX0_restsOn 5 = .ok (.iload 4, 2) := by decide +kernel
theorem dX0_restsOn_7 : decode cX0_restsOn 7 = .ok (.iconst 5, 1) := by decide +kernel
theorem dX0_restsOn_8 : decode cX0_restsOn 8 = .ok (.if_icmp .ge 32, 3) := by decide +kernel
theorem dX0_restsOn_11 : decode cX0_restsOn 11 = .ok (.aload_n 0, 1) := by decide +kernel
theorem dX0_restsOn_12 : decode cX0_restsOn 12 = .ok (.iload_n 3, 1) := by decide +kernel
theorem dX0_restsOn_13 : decode cX0_restsOn 13 = .ok (.invokevirtual 22, 3) := by decide +kernel
theorem dX0_restsOn_16 : decode cX0_restsOn 16 = .ok (.ifCond .eq 24, 3) := by decide +kernel
theorem dX0_restsOn_19 : decode cX0_restsOn 19 = .ok (.iload_n 3, 1) := by decide +kernel
theorem dX0_restsOn_20 : decode cX0_restsOn 20 = .ok (.iload_n 2, 1) := by decide +kernel
theorem dX0_restsOn_21 : decode cX0_restsOn 21 = .ok (.if_icmp .eq 19, 3) := by decide +kernel
theorem dX0_restsOn_24 : decode cX0_restsOn 24 = .ok (.aload_n 0, 1) := by decide +kernel
theorem dX0_restsOn_25 : decode cX0_restsOn 25 = .ok (.getfield 11, 3) := by decide +kernel
theorem dX0_restsOn_28 : decode cX0_restsOn 28 = .ok (.iload_n 3, 1) := by decide +kernel
theorem dX0_restsOn_29 : decode cX0_restsOn 29 = .ok (.aaload, 1) := by decide +kernel
theorem dX0_restsOn_30 : decode cX0_restsOn 30 = .ok (.getfield 47, 3) := by decide +kernel
theorem dX0_restsOn_33 : decode cX0_restsOn 33 = .ok (.istore_n 3, 1) := by decide +kernel
theorem dX0_restsOn_34 : decode cX0_restsOn 34 = .ok (.iinc 4 1, 3) := by decide +kernel
theorem dX0_restsOn_37 : decode cX0_restsOn 37 = .ok (.goto (-32), 3) := by decide +kernel
theorem dX0_restsOn_40 : decode cX0_restsOn 40 = .ok (.iload_n 3, 1) := by decide +kernel
theorem dX0_restsOn_41 : decode cX0_restsOn 41 = .ok (.iload_n 2, 1) := by decide +kernel
theorem dX0_restsOn_42 : decode cX0_restsOn 42 = .ok (.if_icmp .ne 7, 3) := by decide +kernel
theorem dX0_restsOn_45 : decode cX0_restsOn 45 = .ok (.iconst 1, 1) := by decide +kernel
theorem dX0_restsOn_46 : decode cX0_restsOn 46 = .ok (.goto 4, 3) := by decide +kernel
theorem dX0_restsOn_49 : decode cX0_restsOn 49 = .ok (.iconst 0, 1) := by decide +kernel
theorem dX0_restsOn_50 : decode cX0_restsOn 50 = .ok (.ireturn, 1) := by decide +kernel
theorem dX0_countStanding_0 : decode cX0_countStanding 0 = .ok (.iconst 0, 1) := by decide +kernel
theorem dX0_countStanding_1 : decode cX0_countStanding 1 = .ok (.istore_n 1, 1) := by decide +kernel
theorem dX0_countStanding_2 : decode cX0_countStanding 2 = .ok (.iconst 0, 1) := by decide +kernel
theorem dX0_countStanding_3 : decode cX0_countStanding 3 = .ok (.istore_n 2, 1) := by decide +kernel
theorem dX0_countStanding_4 : decode cX0_countStanding 4 = .ok (.iload_n 2, 1) := by decide +kernel
theorem dX0_countStanding_5 : decode cX0_countStanding 5 = .ok (.aload_n 0, 1) := by decide +kernel
theorem dX0_countStanding_6 : decode cX0_countStanding 6 = .ok (.getfield 18, 3) := by decide +kernel
theorem dX0_countStanding_9 : decode cX0_countStanding 9 = .ok (.if_icmp .ge 24, 3) := by decide +kernel
theorem dX0_countStanding_12 : decode cX0_countStanding 12 = .ok (.aload_n 0, 1) := by decide +kernel
theorem dX0_countStanding_13 : decode cX0_countStanding 13 = .ok (.getfield 11, 3) := by decide +kernel
theorem dX0_countStanding_16 : decode cX0_countStanding 16 = .ok (.iload_n 2, 1) := by decide +kernel
theorem dX0_countStanding_17 : decode cX0_countStanding 17 = .ok (.aaload, 1) := by decide +kernel
theorem dX0_countStanding_18 : decode cX0_countStanding 18 = .ok (.getfield 29, 3) := by decide +kernel
theorem dX0_countStanding_21 : decode cX0_countStanding 21 = .ok (.ifCond .eq 6, 3) := by decide +kernel
theorem dX0_countStanding_24 : decode cX0_countStanding 24 = .ok (.iinc 1 1, 3) := by decide +kernel
theorem dX0_countStanding_27 : decode cX0_countStanding 27 = .ok (.iinc 2 1, 3) := by decide +kernel
theorem dX0_countStanding_30 : decode cX0_countStanding 30 = .ok (.goto (-26), 3) := by decide +kernel
theorem dX0_countStanding_33 : decode cX0_countStanding 33 = .ok (.iload_n 1, 1) := by decide +kernel
theorem dX0_countStanding_34 : decode cX0_countStanding 34 = .ok (.ireturn, 1) := by decide +kernel
theorem dX0_leastOn_0 : decode cX0_leastOn 0 = .ok (.iconst (-1), 1) := by decide +kernel
theorem dX0_leastOn_1 : decode cX0_leastOn 1 = .ok (.istore_n 2, 1) := by decide +kernel
theorem dX0_leastOn_2 : decode cX0_leastOn 2 = .ok (.iconst 0, 1) := by decide +kernel
theorem dX0_leastOn_3 : decode cX0_leastOn 3 = .ok (.istore_n 3, 1) := by decide +kernel
theorem dX0_leastOn_4 : decode cX0_leastOn 4 = .ok (.iload_n 3, 1) := by decide +kernel
theorem dX0_leastOn_5 : decode cX0_leastOn 5 = .ok (.aload_n 0, 1) := by decide +kernel
theorem dX0_leastOn_6 : decode cX0_leastOn 6 = .ok (.getfield 18, 3) := by decide +kernel
theorem dX0_leastOn_9 : decode cX0_leastOn 9 = .ok (.if_icmp .ge 45, 3) := by decide +kernel
theorem dX0_leastOn_12 : decode cX0_leastOn 12 = .ok (.aload_n 0, 1) := by decide +kernel
theorem dX0_leastOn_13 : decode cX0_leastOn 13 = .ok (.getfield 11, 3) := by decide +kernel
theorem dX0_leastOn_16 : decode cX0_leastOn 16 = .ok (.iload_n 3, 1) := by decide +kernel
theorem dX0_leastOn_17 : decode cX0_leastOn 17 = .ok (.aaload, 1) := by decide +kernel
theorem dX0_leastOn_18 : decode cX0_leastOn 18 = .ok (.getfield 29, 3) := by decide +kernel
theorem dX0_leastOn_21 : decode cX0_leastOn 21 = .ok (.ifCond .eq 27, 3) := by decide +kernel
theorem dX0_leastOn_24 : decode cX0_leastOn 24 = .ok (.aload_n 0, 1) := by decide +kernel
theorem dX0_leastOn_25 : decode cX0_leastOn 25 = .ok (.getfield 11, 3) := by decide +kernel
theorem dX0_leastOn_28 : decode cX0_leastOn 28 = .ok (.iload_n 3, 1) := by decide +kernel
theorem dX0_leastOn_29 : decode cX0_leastOn 29 = .ok (.aaload, 1) := by decide +kernel
theorem dX0_leastOn_30 : decode cX0_leastOn 30 = .ok (.getfield 26, 3) := by decide +kernel
theorem dX0_leastOn_33 : decode cX0_leastOn 33 = .ok (.iload_n 1, 1) := by decide +kernel
theorem dX0_leastOn_34 : decode cX0_leastOn 34 = .ok (.if_icmp .ne 14, 3) := by decide +kernel
theorem dX0_leastOn_37 : decode cX0_leastOn 37 = .ok (.aload_n 0, 1) := by decide +kernel
theorem dX0_leastOn_38 : decode cX0_leastOn 38 = .ok (.iload_n 3, 1) := by decide +kernel
theorem dX0_leastOn_39 : decode cX0_leastOn 39 = .ok (.iload_n 2, 1) := by decide +kernel
theorem dX0_leastOn_40 : decode cX0_leastOn 40 = .ok (.invokevirtual 64, 3) := by decide +kernel
theorem dX0_leastOn_43 : decode cX0_leastOn 43 = .ok (.ifCond .eq 5, 3) := by decide +kernel
theorem dX0_leastOn_46 : decode cX0_leastOn 46 = .ok (.iload_n 3, 1) := by decide +kernel
theorem dX0_leastOn_47 : decode cX0_leastOn 47 = .ok (.istore_n 2, 1) := by decide +kernel
theorem dX0_leastOn_48 : decode cX0_leastOn 48 = .ok (.iinc 3 1, 3) := by decide +kernel
theorem dX0_leastOn_51 : decode cX0_leastOn 51 = .ok (.goto (-47), 3) := by decide +kernel
theorem dX0_leastOn_54 : decode cX0_leastOn 54 = .ok (.iload_n 2, 1) := by decide +kernel
theorem dX0_leastOn_55 : decode cX0_leastOn 55 = .ok (.ireturn, 1) := by decide +kernel
theorem dX0_isAhead_0 : decode cX0_isAhead 0 = .ok (.aload_n 0, 1) := by decide +kernel
theorem dX0_isAhead_1 : decode cX0_isAhead 1 = .ok (.iload_n 1, 1) := by decide +kernel
theorem dX0_isAhead_2 : decode cX0_isAhead 2 = .ok (.invokevirtual 22, 3) := by decide +kernel
theorem dX0_isAhead_5 : decode cX0_isAhead 5 = .ok (.ifCond .eq 11, 3) := by decide +kernel
theorem dX0_isAhead_8 : decode cX0_isAhead 8 = .ok (.aload_n 0, 1) := by decide +kernel
theorem dX0_isAhead_9 : decode cX0_isAhead 9 = .ok (.iload_n 2, 1) := by decide +kernel
theorem dX0_isAhead_10 : decode cX0_isAhead 10 = .ok (.invokevirtual 22, 3) := by decide +kernel
theorem dX0_isAhead_13 : decode cX0_isAhead 13 = .ok (.ifCond .ne 9, 3) := by decide +kernel
theorem dX0_isAhead_16 : decode cX0_isAhead 16 = .ok (.aload_n 0, 1) := by decide +kernel
theorem dX0_isAhead_17 : decode cX0_isAhead 17 = .ok (.iload_n 1, 1) := by decide +kernel
theorem dX0_isAhead_18 : decode cX0_isAhead 18 = .ok (.invokevirtual 22, 3) := by decide +kernel
theorem dX0_isAhead_21 : decode cX0_isAhead 21 = .ok (.ireturn, 1) := by decide +kernel
theorem dX0_isAhead_22 : decode cX0_isAhead 22 = .ok (.aload_n 0, 1) := by decide +kernel
theorem dX0_isAhead_23 : decode cX0_isAhead 23 = .ok (.getfield 11, 3) := by decide +kernel
theorem dX0_isAhead_26 : decode cX0_isAhead 26 = .ok (.iload_n 1, 1) := by decide +kernel
theorem dX0_isAhead_27 : decode cX0_isAhead 27 = .ok (.aaload, 1) := by decide +kernel
theorem dX0_isAhead_28 : decode cX0_isAhead 28 = .ok (.invokevirtual 67, 3) := by decide +kernel
theorem dX0_isAhead_31 : decode cX0_isAhead 31 = .ok (.istore_n 3, 1) := by decide +kernel
theorem dX0_isAhead_32 : decode cX0_isAhead 32 = .ok (.aload_n 0, 1) := by decide +kernel
theorem dX0_isAhead_33 : decode cX0_isAhead 33 = .ok (.getfield 11, 3) := by decide +kernel
theorem dX0_isAhead_36 : decode cX0_isAhead 36 = .ok (.iload_n 2, 1) := by decide +kernel
theorem dX0_isAhead_37 : decode cX0_isAhead 37 = .ok (.aaload, 1) := by decide +kernel
theorem dX0_isAhead_38 : decode cX0_isAhead 38 = .ok (.invokevirtual 67, 3) := by decide +kernel
theorem dX0_isAhead_41 : decode cX0_isAhead 41 = .ok (.istore 4, 2) := by decide +kernel
theorem dX0_isAhead_43 : decode cX0_isAhead 43 = .ok (.iload_n 3, 1) := by decide +kernel
theorem dX0_isAhead_44 : decode cX0_isAhead 44 = .ok (.iload 4, 2) := by decide +kernel
theorem dX0_isAhead_46 : decode cX0_isAhead 46 = .ok (.if_icmp .lt 14, 3) := by decide +kernel
theorem dX0_isAhead_49 : decode cX0_isAhead 49 = .ok (.iload_n 3, 1) := by decide +kernel
theorem dX0_isAhead_50 : decode cX0_isAhead 50 = .ok (.iload 4, 2) := by decide +kernel
theorem dX0_isAhead_52 : decode cX0_isAhead 52 = .ok (.if_icmp .ne 12, 3) := by decide +kernel
theorem dX0_isAhead_55 : decode cX0_isAhead 55 = .ok (.iload_n 1, 1) := by decide +kernel
theorem dX0_isAhead_56 : decode cX0_isAhead 56 = .ok (.iload_n 2, 1) := by decide +kernel
theorem dX0_isAhead_57 : decode cX0_isAhead 57 = .ok (.if_icmp .ge 7, 3) := by decide +kernel
theorem dX0_isAhead_60 : decode cX0_isAhead 60 = .ok (.iconst 1, 1) := by decide +kernel
theorem dX0_isAhead_61 : decode cX0_isAhead 61 = .ok (.goto 4, 3) := by decide +kernel
theorem dX0_isAhead_64 : decode cX0_isAhead 64 = .ok (.iconst 0, 1) := by decide +kernel
theorem dX0_isAhead_65 : decode cX0_isAhead 65 = .ok (.ireturn, 1) := by decide +kernel
theorem dX1_init_0 : decode cX1_init 0 = .ok (.aload_n 0, 1) := by decide +kernel
theorem dX1_init_1 : decode cX1_init 1 = .ok (.invokespecial 1, 3) := by decide +kernel
theorem dX1_init_4 : decode cX1_init 4 = .ok (.return_, 1) := by decide +kernel
theorem dX1_speedAfter_0 : decode cX1_speedAfter 0 = .ok (.iload_n 2, 1) := by decide +kernel
theorem dX1_speedAfter_1 : decode cX1_speedAfter 1 = .ok (.bipush 43, 2) := by decide +kernel
theorem dX1_speedAfter_3 : decode cX1_speedAfter 3 = .ok (.if_icmp .ne 17, 3) := by decide +kernel
theorem dX1_speedAfter_6 : decode cX1_speedAfter 6 = .ok (.aload_n 0, 1) := by decide +kernel
theorem dX1_speedAfter_7 : decode cX1_speedAfter 7 = .ok (.getfield 7, 3) := by decide +kernel
theorem dX1_speedAfter_10 : decode cX1_speedAfter 10 = .ok (.iload_n 1, 1) := by decide +kernel
theorem dX1_speedAfter_11 : decode cX1_speedAfter 11 = .ok (.aload_n 0, 1) := by decide +kernel
theorem dX1_speedAfter_12 : decode cX1_speedAfter 12 = .ok (.getfield 13, 3) := by decide +kernel
theorem dX1_speedAfter_15 : decode cX1_speedAfter 15 = .ok (.iadd, 1) := by decide +kernel
theorem dX1_speedAfter_16 : decode cX1_speedAfter 16 = .ok (.invokestatic 16, 3) := by decide +kernel
theorem dX1_speedAfter_19 : decode cX1_speedAfter 19 = .ok (.ireturn, 1) := by decide +kernel
theorem dX1_speedAfter_20 : decode cX1_speedAfter 20 = .ok (.iload_n 2, 1) := by decide +kernel
theorem dX1_speedAfter_21 : decode cX1_speedAfter 21 = .ok (.bipush 45, 2) := by decide +kernel
theorem dX1_speedAfter_23 : decode cX1_speedAfter 23 = .ok (.if_icmp .ne 14, 3) := by decide +kernel
theorem dX1_speedAfter_26 : decode cX1_speedAfter 26 = .ok (.iconst 0, 1) := by decide +kernel
theorem dX1_speedAfter_27 : decode cX1_speedAfter 27 = .ok (.iload_n 1, 1) := by decide +kernel
theorem dX1_speedAfter_28 : decode cX1_speedAfter 28 = .ok (.aload_n 0, 1) := by decide +kernel
theorem dX1_speedAfter_29 : decode cX1_speedAfter 29 = .ok (.getfield 13, 3) := by decide +kernel
theorem dX1_speedAfter_32 : decode cX1_speedAfter 32 = .ok (.isub, 1) := by decide +kernel
theorem dX1_speedAfter_33 : decode cX1_speedAfter 33 = .ok (.invokestatic 22, 3) := by decide +kernel
theorem dX1_speedAfter_36 : decode cX1_speedAfter 36 = .ok (.ireturn, 1) := by decide +kernel
theorem dX1_speedAfter_37 : decode cX1_speedAfter 37 = .ok (.iload_n 1, 1) := by decide +kernel
theorem dX1_speedAfter_38 : decode cX1_speedAfter 38 = .ok (.ireturn, 1) := by decide +kernel
theorem dX2_init_0 : decode cX2_init 0 = .ok (.aload_n 0, 1) := by decide +kernel
theorem dX2_init_1 : decode cX2_init 1 = .ok (.invokespecial 3, 3) := by decide +kernel
theorem dX2_init_4 : decode cX2_init 4 = .ok (.aload_n 0, 1) := by decide +kernel
theorem dX2_init_5 : decode cX2_init 5 = .ok (.bipush 60, 2) := by decide +kernel
theorem dX2_init_7 : decode cX2_init 7 = .ok (.newarray .char, 2) := by decide +kernel
theorem dX2_init_9 : decode cX2_init 9 = .ok (.putfield 9, 3) := by decide +kernel
theorem dX2_init_12 : decode cX2_init 12 = .ok (.return_, 1) := by decide +kernel
theorem dX2_keep_0 : decode cX2_keep 0 = .ok (.iconst 0, 1) := by decide +kernel
theorem dX2_keep_1 : decode cX2_keep 1 = .ok (.istore_n 3, 1) := by decide +kernel
theorem dX2_keep_2 : decode cX2_keep 2 = .ok (.iload_n 3, 1) := by decide +kernel
theorem dX2_keep_3 : decode cX2_keep 3 = .ok (.aload_n 1, 1) := by decide +kernel
theorem dX2_keep_4 : decode cX2_keep 4 = .ok (.getfield 15, 3) := by decide +kernel
theorem dX2_keep_7 : decode cX2_keep 7 = .ok (.if_icmp .ge 30, 3) := by decide +kernel
theorem dX2_keep_10 : decode cX2_keep 10 = .ok (.iload_n 3, 1) := by decide +kernel
theorem dX2_keep_11 : decode cX2_keep 11 = .ok (.bipush 60, 2) := by decide +kernel
theorem dX2_keep_13 : decode cX2_keep 13 = .ok (.if_icmp .ge 24, 3) := by decide +kernel
theorem dX2_keep_16 : decode cX2_keep 16 = .ok (.iload_n 3, 1) := by decide +kernel
theorem dX2_keep_17 : decode cX2_keep 17 = .ok (.aload_n 2, 1) := by decide +kernel
theorem dX2_keep_18 : decode cX2_keep 18 = .ok (.arraylength, 1) := by decide +kernel
theorem dX2_keep_19 : decode cX2_keep 19 = .ok (.if_icmp .ge 18, 3) := by decide +kernel
theorem dX2_keep_22 : decode cX2_keep 22 = .ok (.aload_n 0, 1) := by decide +kernel
theorem dX2_keep_23 : decode cX2_keep 23 = .ok (.getfield 9, 3) := by decide +kernel
theorem dX2_keep_26 : decode cX2_keep 26 = .ok (.iload_n 3, 1) := by decide +kernel
theorem dX2_keep_27 : decode cX2_keep 27 = .ok (.aload_n 2, 1) := by decide +kernel
theorem dX2_keep_28 : decode cX2_keep 28 = .ok (.iload_n 3, 1) := by decide +kernel
theorem dX2_keep_29 : decode cX2_keep 29 = .ok (.caload, 1) := by decide +kernel
theorem dX2_keep_30 : decode cX2_keep 30 = .ok (.castore, 1) := by decide +kernel
theorem dX2_keep_31 : decode cX2_keep 31 = .ok (.iinc 3 1, 3) := by decide +kernel
theorem dX2_keep_34 : decode cX2_keep 34 = .ok (.goto (-32), 3) := by decide +kernel
theorem dX2_keep_37 : decode cX2_keep 37 = .ok (.aload_n 0, 1) := by decide +kernel
theorem dX2_keep_38 : decode cX2_keep 38 = .ok (.aload_n 1, 1) := by decide +kernel
theorem dX2_keep_39 : decode cX2_keep 39 = .ok (.getfield 15, 3) := by decide +kernel
theorem dX2_keep_42 : decode cX2_keep 42 = .ok (.putfield 21, 3) := by decide +kernel
theorem dX2_keep_45 : decode cX2_keep 45 = .ok (.aload_n 0, 1) := by decide +kernel
theorem dX2_keep_46 : decode cX2_keep 46 = .ok (.aload_n 1, 1) := by decide +kernel
theorem dX2_keep_47 : decode cX2_keep 47 = .ok (.getfield 22, 3) := by decide +kernel
theorem dX2_keep_50 : decode cX2_keep 50 = .ok (.putfield 25, 3) := by decide +kernel
theorem dX2_keep_53 : decode cX2_keep 53 = .ok (.aload_n 0, 1) := by decide +kernel
theorem dX2_keep_54 : decode cX2_keep 54 = .ok (.iconst 1, 1) := by decide +kernel
theorem dX2_keep_55 : decode cX2_keep 55 = .ok (.putfield 26, 3) := by decide +kernel
theorem dX2_keep_58 : decode cX2_keep 58 = .ok (.return_, 1) := by decide +kernel
theorem dX2_counted_0 : decode cX2_counted 0 = .ok (.aload_n 0, 1) := by decide +kernel
theorem dX2_counted_1 : decode cX2_counted 1 = .ok (.getfield 25, 3) := by decide +kernel
theorem dX2_counted_4 : decode cX2_counted 4 = .ok (.aload_n 0, 1) := by decide +kernel
theorem dX2_counted_5 : decode cX2_counted 5 = .ok (.getfield 30, 3) := by decide +kernel
theorem dX2_counted_8 : decode cX2_counted 8 = .ok (.iadd, 1) := by decide +kernel
theorem dX2_counted_9 : decode cX2_counted 9 = .ok (.ireturn, 1) := by decide +kernel
theorem dX2_inputsUnlike_0 : decode cX2_inputsUnlike 0 = .ok (.iconst 0, 1) := by decide +kernel
theorem dX2_inputsUnlike_1 : decode cX2_inputsUnlike 1 = .ok (.istore_n 2, 1) := by decide +kernel
theorem dX2_inputsUnlike_2 : decode cX2_inputsUnlike 2 = .ok (.iconst 0, 1) := by decide +kernel
theorem dX2_inputsUnlike_3 : decode cX2_inputsUnlike 3 = .ok (.istore_n 3, 1) := by decide +kernel
theorem dX2_inputsUnlike_4 : decode cX2_inputsUnlike 4 = .ok (.iload_n 3, 1) := by decide +kernel
theorem dX2_inputsUnlike_5 : decode cX2_inputsUnlike 5 = .ok (.aload_n 0, 1) := by decide +kernel
theorem dX2_inputsUnlike_6 : decode cX2_inputsUnlike 6 = .ok (.getfield 21, 3) := by decide +kernel
theorem dX2_inputsUnlike_9 : decode cX2_inputsUnlike 9 = .ok (.if_icmp .ge 41, 3) := by decide +kernel
theorem dX2_inputsUnlike_12 : decode cX2_inputsUnlike 12 = .ok (.iload_n 3, 1) := by decide +kernel
theorem dX2_inputsUnlike_13 : decode cX2_inputsUnlike 13 = .ok (.bipush 60, 2) := by decide +kernel
theorem dX2_inputsUnlike_15 : decode cX2_inputsUnlike 15 = .ok (.if_icmp .ge 35, 3) := by decide +kernel
theorem dX2_inputsUnlike_18 : decode cX2_inputsUnlike 18 = .ok (.iload_n 3, 1) := by decide +kernel
theorem dX2_inputsUnlike_19 : decode cX2_inputsUnlike 19 = .ok (.aload_n 1, 1) := by decide +kernel
theorem dX2_inputsUnlike_20 : decode cX2_inputsUnlike 20 = .ok (.getfield 21, 3) := by decide +kernel
theorem dX2_inputsUnlike_23 : decode cX2_inputsUnlike 23 = .ok (.if_icmp .ge 18, 3) := by decide +kernel
theorem dX2_inputsUnlike_26 : decode cX2_inputsUnlike 26 = .ok (.aload_n 0, 1) := by decide +kernel
theorem dX2_inputsUnlike_27 : decode cX2_inputsUnlike 27 = .ok (.getfield 9, 3) := by decide +kernel
theorem dX2_inputsUnlike_30 : decode cX2_inputsUnlike 30 = .ok (.iload_n 3, 1) := by decide +kernel
theorem dX2_inputsUnlike_31 : decode cX2_inputsUnlike 31 = .ok (.caload, 1) := by decide +kernel
theorem dX2_inputsUnlike_32 : decode cX2_inputsUnlike 32 = .ok (.aload_n 1, 1) := by decide +kernel
theorem dX2_inputsUnlike_33 : decode cX2_inputsUnlike 33 = .ok (.getfield 9, 3) := by decide +kernel
theorem dX2_inputsUnlike_36 : decode cX2_inputsUnlike 36 = .ok (.iload_n 3, 1) := by decide +kernel
theorem dX2_inputsUnlike_37 : decode cX2_inputsUnlike 37 = .ok (.caload, 1) := by decide +kernel
theorem dX2_inputsUnlike_38 : decode cX2_inputsUnlike 38 = .ok (.if_icmp .eq 6, 3) := by decide +kernel
theorem dX2_inputsUnlike_41 : decode cX2_inputsUnlike 41 = .ok (.iinc 2 1, 3) := by decide +kernel
theorem dX2_inputsUnlike_44 : decode cX2_inputsUnlike 44 = .ok (.iinc 3 1, 3) := by decide +kernel
theorem dX2_inputsUnlike_47 : decode cX2_inputsUnlike 47 = .ok (.goto (-43), 3) := by decide +kernel
theorem dX2_inputsUnlike_50 : decode cX2_inputsUnlike 50 = .ok (.iload_n 2, 1) := by decide +kernel
theorem dX2_inputsUnlike_51 : decode cX2_inputsUnlike 51 = .ok (.ireturn, 1) := by decide +kernel
theorem dX3_init_0 : decode cX3_init 0 = .ok (.aload_n 0, 1) := by decide +kernel
theorem dX3_init_1 : decode cX3_init 1 = .ok (.invokespecial 1, 3) := by decide +kernel
theorem dX3_init_4 : decode cX3_init 4 = .ok (.return_, 1) := by decide +kernel
theorem dX3_follow_0 : decode cX3_follow 0 = .ok (.aload_n 0, 1) := by decide +kernel
theorem dX3_follow_1 : decode cX3_follow 1 = .ok (.iconst 0, 1) := by decide +kernel
theorem dX3_follow_2 : decode cX3_follow 2 = .ok (.putfield 7, 3) := by decide +kernel
theorem dX3_follow_5 : decode cX3_follow 5 = .ok (.aload_n 0, 1) := by decide +kernel
theorem dX3_follow_6 : decode cX3_follow 6 = .ok (.iconst 0, 1) := by decide +kernel
theorem dX3_follow_7 : decode cX3_follow 7 = .ok (.putfield 13, 3) := by decide +kernel
theorem dX3_follow_10 : decode cX3_follow 10 = .ok (.aload_n 0, 1) := by decide +kernel
theorem dX3_follow_11 : decode cX3_follow 11 = .ok (.iconst 0, 1) := by decide +kernel
theorem dX3_follow_12 : decode cX3_follow 12 = .ok (.putfield 16, 3) := by decide +kernel
theorem dX3_follow_15 : decode cX3_follow 15 = .ok (.aload_n 0, 1) := by decide +kernel
theorem dX3_follow_16 : decode cX3_follow 16 = .ok (.iconst 0, 1) := by decide +kernel
theorem dX3_follow_17 : decode cX3_follow 17 = .ok (.putfield 19, 3) := by decide +kernel
theorem dX3_follow_20 : decode cX3_follow 20 = .ok (.aload_n 0, 1) := by decide +kernel
theorem dX3_follow_21 : decode cX3_follow 21 = .ok (.iconst 0, 1) := by decide +kernel
theorem dX3_follow_22 : decode cX3_follow 22 = .ok (.putfield 22, 3) := by decide +kernel
theorem dX3_follow_25 : decode cX3_follow 25 = .ok (.iconst 0, 1) := by decide +kernel
theorem dX3_follow_26 : decode cX3_follow 26 = .ok (.istore 5, 2) := by decide +kernel
theorem dX3_follow_28 : decode cX3_follow 28 = .ok (.iload 5, 2) := by decide +kernel
theorem dX3_follow_30 : decode cX3_follow 30 = .ok (.iload_n 2, 1) := by decide +kernel
theorem dX3_follow_31 : decode cX3_follow 31 = .ok (.if_icmp .ge 34, 3) := by decide +kernel
theorem dX3_follow_34 : decode cX3_follow 34 = .ok (.iload 5, 2) := by decide +kernel
theorem dX3_follow_36 : decode cX3_follow 36 = .ok (.aload_n 1, 1) := by decide +kernel
theorem dX3_follow_37 : decode cX3_follow 37 = .ok (.arraylength, 1) := by decide +kernel
theorem dX3_follow_38 : decode cX3_follow 38 = .ok (.if_icmp .ge 27, 3) := by decide +kernel
theorem dX3_follow_41 : decode cX3_follow 41 = .ok (.aload_n 0, 1) := by decide +kernel
theorem dX3_follow_42 : decode cX3_follow 42 = .ok (.getfield 22, 3) := by decide +kernel
theorem dX3_follow_45 : decode cX3_follow 45 = .ok (.ifCond .ne 20, 3) := by decide +kernel
theorem dX3_follow_48 : decode cX3_follow 48 = .ok (.aload_n 0, 1) := by decide +kernel
theorem dX3_follow_49 : decode cX3_follow 49 = .ok (.aload_n 1, 1) := by decide +kernel
theorem dX3_follow_50 : decode cX3_follow 50 = .ok (.iload 5, 2) := by decide +kernel
theorem dX3_follow_52 : decode cX3_follow 52 = .ok (.caload, 1) := by decide +kernel
theorem dX3_follow_53 : decode cX3_follow 53 = .ok (.aload_n 3, 1) := by decide +kernel
theorem dX3_follow_54 : decode cX3_follow 54 = .ok (.aload 4, 2) := by decide +kernel
theorem dX3_follow_56 : decode cX3_follow 56 = .ok (.invokevirtual 26, 3) := by decide +kernel
theorem dX3_follow_59 : decode cX3_follow 59 = .ok (.iinc 5 1, 3) := by decide +kernel
theorem dX3_follow_62 : decode cX3_follow 62 = .ok (.goto (-34), 3) := by decide +kernel
theorem dX3_follow_65 : decode cX3_follow 65 = .ok (.return_, 1) := by decide +kernel
theorem dX3_move_0 : decode cX3_move 0 = .ok (.aload_n 0, 1) := by decide +kernel
theorem dX3_move_1 : decode cX3_move 1 = .ok (.dup, 1) := by decide +kernel
theorem dX3_move_2 : decode cX3_move 2 = .ok (.getfield 16, 3) := by decide +kernel
theorem dX3_move_5 : decode cX3_move 5 = .ok (.iconst 1, 1) := by decide +kernel
theorem dX3_move_6 : decode cX3_move 6 = .ok (.iadd, 1) := by decide +kernel
theorem dX3_move_7 : decode cX3_move 7 = .ok (.putfield 16, 3) := by decide +kernel
theorem dX3_move_10 : decode cX3_move 10 = .ok (.aload_n 0, 1) := by decide +kernel
theorem dX3_move_11 : decode cX3_move 11 = .ok (.aload_n 3, 1) := by decide +kernel
theorem dX3_move_12 : decode cX3_move 12 = .ok (.aload_n 0, 1) := by decide +kernel
theorem dX3_move_13 : decode cX3_move 13 = .ok (.getfield 13, 3) := by decide +kernel
theorem dX3_move_16 : decode cX3_move 16 = .ok (.iload_n 1, 1) := by decide +kernel
theorem dX3_move_17 : decode cX3_move 17 = .ok (.invokevirtual 30, 3) := by decide +kernel
theorem dX3_move_20 : decode cX3_move 20 = .ok (.putfield 13, 3) := by decide +kernel
theorem dX3_move_23 : decode cX3_move 23 = .ok (.aload_n 0, 1) := by decide +kernel
theorem dX3_move_24 : decode cX3_move 24 = .ok (.dup, 1) := by decide +kernel
theorem dX3_move_25 : decode cX3_move 25 = .ok (.getfield 7, 3) := by decide +kernel
theorem dX3_move_28 : decode cX3_move 28 = .ok (.aload_n 0, 1) := by decide +kernel
theorem dX3_move_29 : decode cX3_move 29 = .ok (.getfield 13, 3) := by decide +kernel
theorem dX3_move_32 : decode cX3_move 32 = .ok (.iadd, 1) := by decide +kernel
theorem dX3_move_33 : decode cX3_move 33 = .ok (.putfield 7, 3) := by decide +kernel
theorem dX3_move_36 : decode cX3_move 36 = .ok (.aload_n 0, 1) := by decide +kernel
theorem dX3_move_37 : decode cX3_move 37 = .ok (.getfield 7, 3) := by decide +kernel
theorem dX3_move_40 : decode cX3_move 40 = .ok (.aload_n 2, 1) := by decide +kernel
theorem dX3_move_41 : decode cX3_move 41 = .ok (.getfield 36, 3) := by decide +kernel
theorem dX3_move_44 : decode cX3_move 44 = .ok (.if_icmp .lt 19, 3) := by decide +kernel
theorem dX3_move_47 : decode cX3_move 47 = .ok (.aload_n 0, 1) := by decide +kernel
theorem dX3_move_48 : decode cX3_move 48 = .ok (.aload_n 0, 1) := by decide +kernel
theorem dX3_move_49 : decode cX3_move 49 = .ok (.getfield 7, 3) := by decide +kernel
theorem dX3_move_52 : decode cX3_move 52 = .ok (.aload_n 2, 1) := by decide +kernel
theorem dX3_move_53 : decode cX3_move 53 = .ok (.getfield 36, 3) := by decide +kernel
theorem dX3_move_56 : decode cX3_move 56 = .ok (.isub, 1) := by decide +kernel
theorem dX3_move_57 : decode cX3_move 57 = .ok (.invokevirtual 41, 3) := by decide +kernel
theorem dX3_move_60 : decode cX3_move 60 = .ok (.goto 33, 3) := by decide +kernel
theorem dX3_move_63 : decode cX3_move 63 = .ok (.aload_n 0, 1) := by decide +kernel
theorem dX3_move_64 : decode cX3_move 64 = .ok (.getfield 13, 3) := by decide +kernel
theorem dX3_move_67 : decode cX3_move 67 = .ok (.aload_n 2, 1) := by decide +kernel
theorem dX3_move_68 : decode cX3_move 68 = .ok (.aload_n 0, 1) := by decide +kernel
theorem dX3_move_69 : decode cX3_move 69 = .ok (.getfield 7, 3) := by decide +kernel
theorem dX3_move_72 : decode cX3_move 72 = .ok (.invokevirtual 45, 3) := by decide +kernel
theorem dX3_move_75 : decode cX3_move 75 = .ok (.aload_n 3, 1) := by decide +kernel
theorem dX3_move_76 : decode cX3_move 76 = .ok (.getfield 49, 3) := by decide +kernel
theorem dX3_move_79 : decode cX3_move 79 = .ok (.iadd, 1) := by decide +kernel
theorem dX3_move_80 : decode cX3_move 80 = .ok (.if_icmp .le 13, 3) := by decide +kernel
theorem dX3_move_83 : decode cX3_move 83 = .ok (.aload_n 0, 1) := by decide +kernel
theorem dX3_move_84 : decode cX3_move 84 = .ok (.aload_n 0, 1) := by decide +kernel
theorem dX3_move_85 : decode cX3_move 85 = .ok (.getfield 13, 3) := by decide +kernel
theorem dX3_move_88 : decode cX3_move 88 = .ok (.iconst 2, 1) := by decide +kernel
theorem dX3_move_89 : decode cX3_move 89 = .ok (.idiv, 1) := by decide +kernel
theorem dX3_move_90 : decode cX3_move 90 = .ok (.putfield 13, 3) := by decide +kernel
theorem dX3_move_93 : decode cX3_move 93 = .ok (.return_, 1) := by decide +kernel
theorem dX3_finish_0 : decode cX3_finish 0 = .ok (.aload_n 0, 1) := by decide +kernel
theorem dX3_finish_1 : decode cX3_finish 1 = .ok (.iconst 1, 1) := by decide +kernel
theorem dX3_finish_2 : decode cX3_finish 2 = .ok (.putfield 22, 3) := by decide +kernel
theorem dX3_finish_5 : decode cX3_finish 5 = .ok (.aload_n 0, 1) := by decide +kernel
theorem dX3_finish_6 : decode cX3_finish 6 = .ok (.getfield 13, 3) := by decide +kernel
theorem dX3_finish_9 : decode cX3_finish 9 = .ok (.ifCond .le 15, 3) := by decide +kernel
theorem dX3_finish_12 : decode cX3_finish 12 = .ok (.bipush 100, 2) := by decide +kernel
theorem dX3_finish_14 : decode cX3_finish 14 = .ok (.iload_n 1, 1) := by decide +kernel
theorem dX3_finish_15 : decode cX3_finish 15 = .ok (.imul, 1) := by decide +kernel
theorem dX3_finish_16 : decode cX3_finish 16 = .ok (.aload_n 0, 1) := by decide +kernel
theorem dX3_finish_17 : decode cX3_finish 17 = .ok (.getfield 13, 3) := by decide +kernel
theorem dX3_finish_20 : decode cX3_finish 20 = .ok (.idiv, 1) := by decide +kernel
theorem dX3_finish_21 : decode cX3_finish 21 = .ok (.goto 4, 3) := by decide +kernel
theorem dX3_finish_24 : decode cX3_finish 24 = .ok (.iconst 0, 1) := by decide +kernel
theorem dX3_finish_25 : decode cX3_finish 25 = .ok (.istore_n 2, 1) := by decide +kernel
theorem dX3_finish_26 : decode cX3_finish 26 = .ok (.aload_n 0, 1) := by decide +kernel
theorem dX3_finish_27 : decode cX3_finish 27 = .ok (.bipush 100, 2) := by decide +kernel
theorem dX3_finish_29 : decode cX3_finish 29 = .ok (.aload_n 0, 1) := by decide +kernel
theorem dX3_finish_30 : decode cX3_finish 30 = .ok (.getfield 16, 3) := by decide +kernel
theorem dX3_finish_33 : decode cX3_finish 33 = .ok (.imul, 1) := by decide +kernel
theorem dX3_finish_34 : decode cX3_finish 34 = .ok (.iload_n 2, 1) := by decide +kernel
theorem dX3_finish_35 : decode cX3_finish 35 = .ok (.isub, 1) := by decide +kernel
theorem dX3_finish_36 : decode cX3_finish 36 = .ok (.putfield 19, 3) := by decide +kernel
theorem dX3_finish_39 : decode cX3_finish 39 = .ok (.return_, 1) := by decide +kernel
theorem dX4_init_0 : decode cX4_init 0 = .ok (.aload_n 0, 1) := by decide +kernel
theorem dX4_init_1 : decode cX4_init 1 = .ok (.invokespecial 3, 3) := by decide +kernel
theorem dX4_init_4 : decode cX4_init 4 = .ok (.aload_n 0, 1) := by decide +kernel
theorem dX4_init_5 : decode cX4_init 5 = .ok (.bipush 10, 2) := by decide +kernel
theorem dX4_init_7 : decode cX4_init 7 = .ok (.newarray .int, 2) := by decide +kernel
theorem dX4_init_9 : decode cX4_init 9 = .ok (.putfield 9, 3) := by decide +kernel
theorem dX4_init_12 : decode cX4_init 12 = .ok (.aload_n 0, 1) := by decide +kernel
theorem dX4_init_13 : decode cX4_init 13 = .ok (.iconst (-1), 1) := by decide +kernel
theorem dX4_init_14 : decode cX4_init 14 = .ok (.putfield 15, 3) := by decide +kernel
theorem dX4_init_17 : decode cX4_init 17 = .ok (.aload_n 0, 1) := by decide +kernel
theorem dX4_init_18 : decode cX4_init 18 = .ok (.bipush 6, 2) := by decide +kernel
theorem dX4_init_20 : decode cX4_init 20 = .ok (.newarray .int, 2) := by decide +kernel
theorem dX4_init_22 : decode cX4_init 22 = .ok (.putfield 19, 3) := by decide +kernel
theorem dX4_init_25 : decode cX4_init 25 = .ok (.aload_n 0, 1) := by decide +kernel
theorem dX4_init_26 : decode cX4_init 26 = .ok (.bipush 60, 2) := by decide +kernel
theorem dX4_init_28 : decode cX4_init 28 = .ok (.newarray .int, 2) := by decide +kernel
theorem dX4_init_30 : decode cX4_init 30 = .ok (.putfield 22, 3) := by decide +kernel
theorem dX4_init_33 : decode cX4_init 33 = .ok (.aload_n 0, 1) := by decide +kernel
theorem dX4_init_34 : decode cX4_init 34 = .ok (.bipush 6, 2) := by decide +kernel
theorem dX4_init_36 : decode cX4_init 36 = .ok (.newarray .int, 2) := by decide +kernel
theorem dX4_init_38 : decode cX4_init 38 = .ok (.putfield 25, 3) := by decide +kernel
theorem dX4_init_41 : decode cX4_init 41 = .ok (.aload_n 0, 1) := by decide +kernel
theorem dX4_init_42 : decode cX4_init 42 = .ok (.bipush 6, 2) := by decide +kernel
theorem dX4_init_44 : decode cX4_init 44 = .ok (.newarray .int, 2) := by decide +kernel
theorem dX4_init_46 : decode cX4_init 46 = .ok (.putfield 28, 3) := by decide +kernel
theorem dX4_init_49 : decode cX4_init 49 = .ok (.return_, 1) := by decide +kernel
theorem dX4_openOn_0 : decode cX4_openOn 0 = .ok (.aload_n 0, 1) := by decide +kernel
theorem dX4_openOn_1 : decode cX4_openOn 1 = .ok (.getfield 31, 3) := by decide +kernel
theorem dX4_openOn_4 : decode cX4_openOn 4 = .ok (.bipush 10, 2) := by decide +kernel
theorem dX4_openOn_6 : decode cX4_openOn 6 = .ok (.if_icmp .ge 31, 3) := by decide +kernel
theorem dX4_openOn_9 : decode cX4_openOn 9 = .ok (.aload_n 0, 1) := by decide +kernel
theorem dX4_openOn_10 : decode cX4_openOn 10 = .ok (.getfield 9, 3) := by decide +kernel
theorem dX4_openOn_13 : decode cX4_openOn 13 = .ok (.aload_n 0, 1) := by decide +kernel
theorem dX4_openOn_14 : decode cX4_openOn 14 = .ok (.getfield 31, 3) := by decide +kernel
theorem dX4_openOn_17 : decode cX4_openOn 17 = .ok (.iload_n 1, 1) := by decide +kernel
theorem dX4_openOn_18 : decode cX4_openOn 18 = .ok (.iastore, 1) := by decide +kernel
theorem dX4_openOn_19 : decode cX4_openOn 19 = .ok (.aload_n 0, 1) := by decide +kernel
theorem dX4_openOn_20 : decode cX4_openOn 20 = .ok (.aload_n 0, 1) := by decide +kernel
theorem dX4_openOn_21 : decode cX4_openOn 21 = .ok (.getfield 31, 3) := by decide +kernel
theorem dX4_openOn_24 : decode cX4_openOn 24 = .ok (.putfield 15, 3) := by decide +kernel
theorem dX4_openOn_27 : decode cX4_openOn 27 = .ok (.aload_n 0, 1) := by decide +kernel
theorem dX4_openOn_28 : decode cX4_openOn 28 = .ok (.dup, 1) := by decide +kernel
theorem dX4_openOn_29 : decode cX4_openOn 29 = .ok (.getfield 31, 3) := by decide +kernel
theorem dX4_openOn_32 : decode cX4_openOn 32 = .ok (.iconst 1, 1) := by decide +kernel
theorem dX4_openOn_33 : decode cX4_openOn 33 = .ok (.iadd, 1) := by decide +kernel
theorem dX4_openOn_34 : decode cX4_openOn 34 = .ok (.putfield 31, 3) := by decide +kernel
theorem dX4_openOn_37 : decode cX4_openOn 37 = .ok (.return_, 1) := by decide +kernel
theorem dX4_roundOn_0 : decode cX4_roundOn 0 = .ok (.aload_n 0, 1) := by decide +kernel
theorem dX4_roundOn_1 : decode cX4_roundOn 1 = .ok (.getfield 15, 3) := by decide +kernel
theorem dX4_roundOn_4 : decode cX4_roundOn 4 = .ok (.ifCond .lt 34, 3) := by decide +kernel
theorem dX4_roundOn_7 : decode cX4_roundOn 7 = .ok (.aload_n 0, 1) := by decide +kernel
theorem dX4_roundOn_8 : decode cX4_roundOn 8 = .ok (.getfield 15, 3) := by decide +kernel
theorem dX4_roundOn_11 : decode cX4_roundOn 11 = .ok (.aload_n 0, 1) := by decide +kernel
theorem dX4_roundOn_12 : decode cX4_roundOn 12 = .ok (.getfield 31, 3) := by decide +kernel
theorem dX4_roundOn_15 : decode cX4_roundOn 15 = .ok (.if_icmp .ge 23, 3) := by decide +kernel
theorem dX4_roundOn_18 : decode cX4_roundOn 18 = .ok (.aload_n 0, 1) := by decide +kernel
theorem dX4_roundOn_19 : decode cX4_roundOn 19 = .ok (.getfield 9, 3) := by decide +kernel
theorem dX4_roundOn_22 : decode cX4_roundOn 22 = .ok (.aload_n 0, 1) := by decide +kernel
theorem dX4_roundOn_23 : decode cX4_roundOn 23 = .ok (.getfield 15, 3) := by decide +kernel
theorem dX4_roundOn_26 : decode cX4_roundOn 26 = .ok (.iaload, 1) := by decide +kernel
theorem dX4_roundOn_27 : decode cX4_roundOn 27 = .ok (.iload_n 1, 1) := by decide +kernel
theorem dX4_roundOn_28 : decode cX4_roundOn 28 = .ok (.if_icmp .ne 10, 3) := by decide +kernel
theorem dX4_roundOn_31 : decode cX4_roundOn 31 = .ok (.aload_n 0, 1) := by decide +kernel
theorem dX4_roundOn_32 : decode cX4_roundOn 32 = .ok (.getfield 15, 3) := by decide +kernel
theorem dX4_roundOn_35 : decode cX4_roundOn 35 = .ok (.goto 4, 3) := by decide +kernel
theorem dX4_roundOn_38 : decode cX4_roundOn 38 = .ok (.iconst (-1), 1) := by decide +kernel
theorem dX4_roundOn_39 : decode cX4_roundOn 39 = .ok (.ireturn, 1) := by decide +kernel
theorem dX4_findLaps_0 : decode cX4_findLaps 0 = .ok (.iconst 0, 1) := by decide +kernel
theorem dX4_findLaps_1 : decode cX4_findLaps 1 = .ok (.istore_n 3, 1) := by decide +kernel
theorem dX4_findLaps_2 : decode cX4_findLaps 2 = .ok (.iload_n 3, 1) := by decide +kernel
theorem dX4_findLaps_3 : decode cX4_findLaps 3 = .ok (.bipush 6, 2) := by decide +kernel
theorem dX4_findLaps_5 : decode cX4_findLaps 5 = .ok (.if_icmp .ge 16, 3) := by decide +kernel
theorem dX4_findLaps_8 : decode cX4_findLaps 8 = .ok (.aload_n 0, 1) := by decide +kernel
theorem dX4_findLaps_9 : decode cX4_findLaps 9 = .ok (.getfield 19, 3) := by decide +kernel
theorem dX4_findLaps_12 : decode cX4_findLaps 12 = .ok (.iload_n 3, 1) := by decide +kernel
theorem dX4_findLaps_13 : decode cX4_findLaps 13 = .ok (.iconst (-1), 1) := by decide +kernel
theorem dX4_findLaps_14 : decode cX4_findLaps 14 = .ok (.iastore, 1) := by decide +kernel
theorem dX4_findLaps_15 : decode cX4_findLaps 15 = .ok (.iinc 3 1, 3) := by decide +kernel
theorem dX4_findLaps_18 : decode cX4_findLaps 18 = .ok (.goto (-16), 3) := by decide +kernel
theorem dX4_findLaps_21 : decode cX4_findLaps 21 = .ok (.iconst 0, 1) := by decide +kernel
theorem dX4_findLaps_22 : decode cX4_findLaps 22 = .ok (.istore_n 3, 1) := by decide +kernel
theorem dX4_findLaps_23 : decode cX4_findLaps 23 = .ok (.iload_n 3, 1) := by decide +kernel
theorem dX4_findLaps_24 : decode cX4_findLaps 24 = .ok (.aload_n 1, 1) := by decide +kernel
theorem dX4_findLaps_25 : decode cX4_findLaps 25 = .ok (.getfield 34, 3) := by decide +kernel
theorem dX4_findLaps_28 : decode cX4_findLaps 28 = .ok (.if_icmp .ge 63, 3) := by decide +kernel
theorem dX4_findLaps_31 : decode cX4_findLaps 31 = .ok (.aload_n 1, 1) := by decide +kernel
theorem dX4_findLaps_32 : decode cX4_findLaps 32 = .ok (.getfield 39, 3) := by decide +kernel
theorem dX4_findLaps_35 : decode cX4_findLaps 35 = .ok (.iload_n 3, 1) := by decide +kernel
theorem dX4_findLaps_36 : decode cX4_findLaps 36 = .ok (.aaload, 1) := by decide +kernel
theorem dX4_findLaps_37 : decode cX4_findLaps 37 = .ok (.astore 4, 2) := by decide +kernel
theorem dX4_findLaps_39 : decode cX4_findLaps 39 = .ok (.aload 4, 2) := by decide +kernel
theorem dX4_findLaps_41 : decode cX4_findLaps 41 = .ok (.getfield 43, 3) := by decide +kernel
theorem dX4_findLaps_44 : decode cX4_findLaps 44 = .ok (.ifCond .eq 41, 3) := by decide +kernel
theorem dX4_findLaps_47 : decode cX4_findLaps 47 = .ok (.aload 4, 2) := by decide +kernel
theorem dX4_findLaps_49 : decode cX4_findLaps 49 = .ok (.getfield 49, 3) := by decide +kernel
theorem dX4_findLaps_52 : decode cX4_findLaps 52 = .ok (.iload_n 2, 1) := by decide +kernel
theorem dX4_findLaps_53 : decode cX4_findLaps 53 = .ok (.if_icmp .ne 32, 3) := by decide +kernel
theorem dX4_findLaps_56 : decode cX4_findLaps 56 = .ok (.aload_n 1, 1) := by decide +kernel
theorem dX4_findLaps_57 : decode cX4_findLaps 57 = .ok (.iload_n 3, 1) := by decide +kernel
theorem dX4_findLaps_58 : decode cX4_findLaps 58 = .ok (.aload_n 0, 1) := by decide +kernel
theorem dX4_findLaps_59 : decode cX4_findLaps 59 = .ok (.getfield 19, 3) := by decide +kernel
theorem dX4_findLaps_62 : decode cX4_findLaps 62 = .ok (.aload 4, 2) := by decide +kernel
theorem dX4_findLaps_64 : decode cX4_findLaps 64 = .ok (.getfield 52, 3) := by decide +kernel
theorem dX4_findLaps_67 : decode cX4_findLaps 67 = .ok (.iaload, 1) := by decide +kernel
theorem dX4_findLaps_68 : decode cX4_findLaps 68 = .ok (.invokevirtual 55, 3) := by decide +kernel
theorem dX4_findLaps_71 : decode cX4_findLaps 71 = .ok (.ifCond .eq 14, 3) := by decide +kernel
theorem dX4_findLaps_74 : decode cX4_findLaps 74 = .ok (.aload_n 0, 1) := by decide +kernel
theorem dX4_findLaps_75 : decode cX4_findLaps 75 = .ok (.getfield 19, 3) := by decide +kernel
theorem dX4_findLaps_78 : decode cX4_findLaps 78 = .ok (.aload 4, 2) := by decide +kernel
theorem dX4_findLaps_80 : decode cX4_findLaps 80 = .ok (.getfield 52, 3) := by decide +kernel
theorem dX4_findLaps_83 : decode cX4_findLaps 83 = .ok (.iload_n 3, 1) := by decide +kernel
theorem dX4_findLaps_84 : decode cX4_findLaps 84 = .ok (.iastore, 1) := by decide +kernel
theorem dX4_findLaps_85 : decode cX4_findLaps 85 = .ok (.iinc 3 1, 3) := by decide +kernel
theorem dX4_findLaps_88 : decode cX4_findLaps 88 = .ok (.goto (-65), 3) := by decide +kernel
theorem dX4_findLaps_91 : decode cX4_findLaps 91 = .ok (.return_, 1) := by decide +kernel
theorem dX4_lapsAhead_0 : decode cX4_lapsAhead 0 = .ok (.iconst 0, 1) := by decide +kernel
theorem dX4_lapsAhead_1 : decode cX4_lapsAhead 1 = .ok (.istore_n 3, 1) := by decide +kernel
theorem dX4_lapsAhead_2 : decode cX4_lapsAhead 2 = .ok (.iconst 0, 1) := by decide +kernel
theorem dX4_lapsAhead_3 : decode cX4_lapsAhead 3 = .ok (.istore 4, 2) := by decide +kernel
theorem dX4_lapsAhead_5 : decode cX4_lapsAhead 5 = .ok (.iload 4, 2) := by decide +kernel
theorem dX4_lapsAhead_7 : decode cX4_lapsAhead 7 = .ok (.bipush 6, 2) := by decide +kernel
theorem dX4_lapsAhead_9 : decode cX4_lapsAhead 9 = .ok (.if_icmp .ge 27, 3) := by decide +kernel
theorem dX4_lapsAhead_12 : decode cX4_lapsAhead 12 = .ok (.aload_n 1, 1) := by decide +kernel
theorem dX4_lapsAhead_13 : decode cX4_lapsAhead 13 = .ok (.aload_n 0, 1) := by decide +kernel
theorem dX4_lapsAhead_14 : decode cX4_lapsAhead 14 = .ok (.getfield 19, 3) := by decide +kernel
theorem dX4_lapsAhead_17 : decode cX4_lapsAhead 17 = .ok (.iload 4, 2) := by decide +kernel
theorem dX4_lapsAhead_19 : decode cX4_lapsAhead 19 = .ok (.iaload, 1) := by decide +kernel
theorem dX4_lapsAhead_20 : decode cX4_lapsAhead 20 = .ok (.iload_n 2, 1) := by decide +kernel
theorem dX4_lapsAhead_21 : decode cX4_lapsAhead 21 = .ok (.invokevirtual 55, 3) := by decide +kernel
theorem dX4_lapsAhead_24 : decode cX4_lapsAhead 24 = .ok (.ifCond .eq 6, 3) := by decide +kernel
theorem dX4_lapsAhead_27 : decode cX4_lapsAhead 27 = .ok (.iinc 3 1, 3) := by decide +kernel
theorem dX4_lapsAhead_30 : decode cX4_lapsAhead 30 = .ok (.iinc 4 1, 3) := by decide +kernel
theorem dX4_lapsAhead_33 : decode cX4_lapsAhead 33 = .ok (.goto (-28), 3) := by decide +kernel
theorem dX4_lapsAhead_36 : decode cX4_lapsAhead 36 = .ok (.iload_n 3, 1) := by decide +kernel
theorem dX4_lapsAhead_37 : decode cX4_lapsAhead 37 = .ok (.ireturn, 1) := by decide +kernel
theorem dX4_reckon_0 : decode cX4_reckon 0 = .ok (.iconst 0, 1) := by decide +kernel
theorem dX4_reckon_1 : decode cX4_reckon 1 = .ok (.istore_n 2, 1) := by decide +kernel
theorem dX4_reckon_2 : decode cX4_reckon 2 = .ok (.iload_n 2, 1) := by decide +kernel
theorem dX4_reckon_3 : decode cX4_reckon 3 = .ok (.bipush 6, 2) := by decide +kernel
theorem dX4_reckon_5 : decode cX4_reckon 5 = .ok (.if_icmp .ge 23, 3) := by decide +kernel
theorem dX4_reckon_8 : decode cX4_reckon 8 = .ok (.aload_n 0, 1) := by decide +kernel
theorem dX4_reckon_9 : decode cX4_reckon 9 = .ok (.getfield 25, 3) := by decide +kernel
theorem dX4_reckon_12 : decode cX4_reckon 12 = .ok (.iload_n 2, 1) := by decide +kernel
theorem dX4_reckon_13 : decode cX4_reckon 13 = .ok (.iconst 0, 1) := by decide +kernel
theorem dX4_reckon_14 : decode cX4_reckon 14 = .ok (.iastore, 1) := by decide +kernel
theorem dX4_reckon_15 : decode cX4_reckon 15 = .ok (.aload_n 0, 1) := by decide +kernel
theorem dX4_reckon_16 : decode cX4_reckon 16 = .ok (.getfield 28, 3) := by decide +kernel
theorem dX4_reckon_19 : decode cX4_reckon 19 = .ok (.iload_n 2, 1) := by decide +kernel
theorem dX4_reckon_20 : decode cX4_reckon 20 = .ok (.iconst 0, 1) := by decide +kernel
theorem dX4_reckon_21 : decode cX4_reckon 21 = .ok (.iastore, 1) := by decide +kernel
theorem dX4_reckon_22 : decode cX4_reckon 22 = .ok (.iinc 2 1, 3) := by decide +kernel
theorem dX4_reckon_25 : decode cX4_reckon 25 = .ok (.goto (-23), 3) := by decide +kernel
theorem dX4_reckon_28 : decode cX4_reckon 28 = .ok (.iconst 0, 1) := by decide +kernel
theorem dX4_reckon_29 : decode cX4_reckon 29 = .ok (.istore_n 2, 1) := by decide +kernel
theorem dX4_reckon_30 : decode cX4_reckon 30 = .ok (.iload_n 2, 1) := by decide +kernel
theorem dX4_reckon_31 : decode cX4_reckon 31 = .ok (.aload_n 0, 1) := by decide +kernel
theorem dX4_reckon_32 : decode cX4_reckon 32 = .ok (.getfield 31, 3) := by decide +kernel
theorem dX4_reckon_35 : decode cX4_reckon 35 = .ok (.if_icmp .ge 36, 3) := by decide +kernel
theorem dX4_reckon_38 : decode cX4_reckon 38 = .ok (.aload_n 0, 1) := by decide +kernel
theorem dX4_reckon_39 : decode cX4_reckon 39 = .ok (.aload_n 1, 1) := by decide +kernel
theorem dX4_reckon_40 : decode cX4_reckon 40 = .ok (.iload_n 2, 1) := by decide +kernel
theorem dX4_reckon_41 : decode cX4_reckon 41 = .ok (.invokevirtual 59, 3) := by decide +kernel
theorem dX4_reckon_44 : decode cX4_reckon 44 = .ok (.iconst 0, 1) := by decide +kernel
theorem dX4_reckon_45 : decode cX4_reckon 45 = .ok (.istore_n 3, 1) := by decide +kernel
theorem dX4_reckon_46 : decode cX4_reckon 46 = .ok (.iload_n 3, 1) := by decide +kernel
theorem dX4_reckon_47 : decode cX4_reckon 47 = .ok (.bipush 6, 2) := by decide +kernel
theorem dX4_reckon_49 : decode cX4_reckon 49 = .ok (.if_icmp .ge 16, 3) := by decide +kernel
theorem dX4_reckon_52 : decode cX4_reckon 52 = .ok (.aload_n 0, 1) := by decide +kernel
theorem dX4_reckon_53 : decode cX4_reckon 53 = .ok (.aload_n 1, 1) := by decide +kernel
theorem dX4_reckon_54 : decode cX4_reckon 54 = .ok (.iload_n 2, 1) := by decide +kernel
theorem dX4_reckon_55 : decode cX4_reckon 55 = .ok (.iload_n 3, 1) := by decide +kernel
theorem dX4_reckon_56 : decode cX4_reckon 56 = .ok (.invokevirtual 63, 3) := by decide +kernel
theorem dX4_reckon_59 : decode cX4_reckon 59 = .ok (.iinc 3 1, 3) := by decide +kernel
theorem dX4_reckon_62 : decode cX4_reckon 62 = .ok (.goto (-16), 3) := by decide +kernel
theorem dX4_reckon_65 : decode cX4_reckon 65 = .ok (.iinc 2 1, 3) := by decide +kernel
theorem dX4_reckon_68 : decode cX4_reckon 68 = .ok (.goto (-38), 3) := by decide +kernel
theorem dX4_reckon_71 : decode cX4_reckon 71 = .ok (.iconst 0, 1) := by decide +kernel
theorem dX4_reckon_72 : decode cX4_reckon 72 = .ok (.istore_n 2, 1) := by decide +kernel
theorem dX4_reckon_73 : decode cX4_reckon 73 = .ok (.iload_n 2, 1) := by decide +kernel
theorem dX4_reckon_74 : decode cX4_reckon 74 = .ok (.bipush 6, 2) := by decide +kernel
theorem dX4_reckon_76 : decode cX4_reckon 76 = .ok (.if_icmp .ge 47, 3) := by decide +kernel
theorem dX4_reckon_79 : decode cX4_reckon 79 = .ok (.iconst 0, 1) := by decide +kernel
theorem dX4_reckon_80 : decode cX4_reckon 80 = .ok (.istore_n 3, 1) := by decide +kernel
theorem dX4_reckon_81 : decode cX4_reckon 81 = .ok (.iload_n 3, 1) := by decide +kernel
theorem dX4_reckon_82 : decode cX4_reckon 82 = .ok (.aload_n 0, 1) := by decide +kernel
theorem dX4_reckon_83 : decode cX4_reckon 83 = .ok (.getfield 67, 3) := by decide +kernel
theorem dX4_reckon_86 : decode cX4_reckon 86 = .ok (.if_icmp .ge 31, 3) := by decide +kernel
theorem dX4_reckon_89 : decode cX4_reckon 89 = .ok (.iload_n 3, 1) := by decide +kernel
theorem dX4_reckon_90 : decode cX4_reckon 90 = .ok (.aload_n 0, 1) := by decide +kernel
theorem dX4_reckon_91 : decode cX4_reckon 91 = .ok (.getfield 31, 3) := by decide +kernel
theorem dX4_reckon_94 : decode cX4_reckon 94 = .ok (.if_icmp .ge 23, 3) := by decide +kernel
theorem dX4_reckon_97 : decode cX4_reckon 97 = .ok (.aload_n 0, 1) := by decide +kernel
theorem dX4_reckon_98 : decode cX4_reckon 98 = .ok (.getfield 25, 3) := by decide +kernel
theorem dX4_reckon_101 : decode cX4_reckon 101 = .ok (.iload_n 2, 1) := by decide +kernel
theorem dX4_reckon_102 : decode cX4_reckon 102 = .ok (.dup2, 1) := by decide +kernel
theorem dX4_reckon_103 : decode cX4_reckon 103 = .ok (.iaload, 1) := by decide +kernel
theorem dX4_reckon_104 : decode cX4_reckon 104 = .ok (.aload_n 0, 1) := by decide +kernel
theorem dX4_reckon_105 : decode cX4_reckon 105 = .ok (.iload_n 2, 1) := by decide +kernel
theorem dX4_reckon_106 : decode cX4_reckon 106 = .ok (.invokevirtual 70, 3) := by decide +kernel
theorem dX4_reckon_109 : decode cX4_reckon 109 = .ok (.isub, 1) := by decide +kernel
theorem dX4_reckon_110 : decode cX4_reckon 110 = .ok (.iastore, 1) := by decide +kernel
theorem dX4_reckon_111 : decode cX4_reckon 111 = .ok (.iinc 3 1, 3) := by decide +kernel
theorem dX4_reckon_114 : decode cX4_reckon 114 = .ok (.goto (-33), 3) := by decide +kernel
theorem dX4_reckon_117 : decode cX4_reckon 117 = .ok (.iinc 2 1, 3) := by decide +kernel
theorem dX4_reckon_120 : decode cX4_reckon 120 = .ok (.goto (-47), 3) := by decide +kernel
theorem dX4_reckon_123 : decode cX4_reckon 123 = .ok (.return_, 1) := by decide +kernel
theorem dX4_score_0 : decode cX4_score 0 = .ok (.iconst 0, 1) := by decide +kernel
theorem dX4_score_1 : decode cX4_score 1 = .ok (.istore 4, 2) := by decide +kernel
theorem dX4_score_3 : decode cX4_score 3 = .ok (.aload_n 0, 1) := by decide +kernel
theorem dX4_score_4 : decode cX4_score 4 = .ok (.getfield 19, 3) := by decide +kernel
theorem dX4_score_7 : decode cX4_score 7 = .ok (.iload_n 3, 1) := by decide +kernel
theorem dX4_score_8 : decode cX4_score 8 = .ok (.iaload, 1) := by decide +kernel
theorem dX4_score_9 : decode cX4_score 9 = .ok (.iconst (-1), 1) := by decide +kernel
theorem dX4_score_10 : decode cX4_score 10 = .ok (.if_icmp .eq 56, 3) := by decide +kernel
theorem dX4_score_13 : decode cX4_score 13 = .ok (.aload_n 0, 1) := by decide +kernel
theorem dX4_score_14 : decode cX4_score 14 = .ok (.aload_n 1, 1) := by decide +kernel
theorem dX4_score_15 : decode cX4_score 15 = .ok (.aload_n 0, 1) := by decide +kernel
theorem dX4_score_16 : decode cX4_score 16 = .ok (.getfield 19, 3) := by decide +kernel
theorem dX4_score_19 : decode cX4_score 19 = .ok (.iload_n 3, 1) := by decide +kernel
theorem dX4_score_20 : decode cX4_score 20 = .ok (.iaload, 1) := by decide +kernel
theorem dX4_score_21 : decode cX4_score 21 = .ok (.invokevirtual 74, 3) := by decide +kernel
theorem dX4_score_24 : decode cX4_score 24 = .ok (.istore 5, 2) := by decide +kernel
theorem dX4_score_26 : decode cX4_score 26 = .ok (.iload 5, 2) := by decide +kernel
theorem dX4_score_28 : decode cX4_score 28 = .ok (.getstatic 78, 3) := by decide +kernel
theorem dX4_score_31 : decode cX4_score 31 = .ok (.arraylength, 1) := by decide +kernel
theorem dX4_score_32 : decode cX4_score 32 = .ok (.if_icmp .ge 12, 3) := by decide +kernel
theorem dX4_score_35 : decode cX4_score 35 = .ok (.getstatic 78, 3) := by decide +kernel
theorem dX4_score_38 : decode cX4_score 38 = .ok (.iload 5, 2) := by decide +kernel
theorem dX4_score_40 : decode cX4_score 40 = .ok (.iaload, 1) := by decide +kernel
theorem dX4_score_41 : decode cX4_score 41 = .ok (.goto 4, 3) := by decide +kernel
theorem dX4_score_44 : decode cX4_score 44 = .ok (.iconst 0, 1) := by decide +kernel
theorem dX4_score_45 : decode cX4_score 45 = .ok (.istore 4, 2) := by decide +kernel
theorem dX4_score_47 : decode cX4_score 47 = .ok (.aload_n 0, 1) := by decide +kernel
theorem dX4_score_48 : decode cX4_score 48 = .ok (.getfield 28, 3) := by decide +kernel
theorem dX4_score_51 : decode cX4_score 51 = .ok (.iload_n 3, 1) := by decide +kernel
theorem dX4_score_52 : decode cX4_score 52 = .ok (.dup2, 1) := by decide +kernel
theorem dX4_score_53 : decode cX4_score 53 = .ok (.iaload, 1) := by decide +kernel
theorem dX4_score_54 : decode cX4_score 54 = .ok (.iload 5, 2) := by decide +kernel
theorem dX4_score_56 : decode cX4_score 56 = .ok (.ifCond .ne 7, 3) := by decide +kernel
theorem dX4_score_59 : decode cX4_score 59 = .ok (.iconst 1, 1) := by decide +kernel
theorem dX4_score_60 : decode cX4_score 60 = .ok (.goto 4, 3) := by decide +kernel
theorem dX4_score_63 : decode cX4_score 63 = .ok (.iconst 0, 1) := by decide +kernel
theorem dX4_score_64 : decode cX4_score 64 = .ok (.iadd, 1) := by decide +kernel
theorem dX4_score_65 : decode cX4_score 65 = .ok (.iastore, 1) := by decide +kernel
theorem dX4_score_66 : decode cX4_score 66 = .ok (.aload_n 0, 1) := by decide +kernel
theorem dX4_score_67 : decode cX4_score 67 = .ok (.getfield 22, 3) := by decide +kernel
theorem dX4_score_70 : decode cX4_score 70 = .ok (.iload_n 3, 1) := by decide +kernel
theorem dX4_score_71 : decode cX4_score 71 = .ok (.bipush 10, 2) := by decide +kernel
theorem dX4_score_73 : decode cX4_score 73 = .ok (.imul, 1) := by decide +kernel
theorem dX4_score_74 : decode cX4_score 74 = .ok (.iload_n 2, 1) := by decide +kernel
theorem dX4_score_75 : decode cX4_score 75 = .ok (.iadd, 1) := by decide +kernel
theorem dX4_score_76 : decode cX4_score 76 = .ok (.iload 4, 2) := by decide +kernel
theorem dX4_score_78 : decode cX4_score 78 = .ok (.iastore, 1) := by decide +kernel
theorem dX4_score_79 : decode cX4_score 79 = .ok (.aload_n 0, 1) := by decide +kernel
theorem dX4_score_80 : decode cX4_score 80 = .ok (.getfield 25, 3) := by decide +kernel
theorem dX4_score_83 : decode cX4_score 83 = .ok (.iload_n 3, 1) := by decide +kernel
theorem dX4_score_84 : decode cX4_score 84 = .ok (.dup2, 1) := by decide +kernel
theorem dX4_score_85 : decode cX4_score 85 = .ok (.iaload, 1) := by decide +kernel
theorem dX4_score_86 : decode cX4_score 86 = .ok (.iload 4, 2) := by decide +kernel
theorem dX4_score_88 : decode cX4_score 88 = .ok (.iadd, 1) := by decide +kernel
theorem dX4_score_89 : decode cX4_score 89 = .ok (.iastore, 1) := by decide +kernel
theorem dX4_score_90 : decode cX4_score 90 = .ok (.return_, 1) := by decide +kernel
theorem dX4_takeLeast_0 : decode cX4_takeLeast 0 = .ok (.iload_n 1, 1) := by decide +kernel
theorem dX4_takeLeast_1 : decode cX4_takeLeast 1 = .ok (.bipush 10, 2) := by decide +kernel
theorem dX4_takeLeast_3 : decode cX4_takeLeast 3 = .ok (.imul, 1) := by decide +kernel
theorem dX4_takeLeast_4 : decode cX4_takeLeast 4 = .ok (.istore_n 2, 1) := by decide +kernel
theorem dX4_takeLeast_5 : decode cX4_takeLeast 5 = .ok (.iload_n 2, 1) := by decide +kernel
theorem dX4_takeLeast_6 : decode cX4_takeLeast 6 = .ok (.istore_n 3, 1) := by decide +kernel
theorem dX4_takeLeast_7 : decode cX4_takeLeast 7 = .ok (.iload_n 2, 1) := by decide +kernel
theorem dX4_takeLeast_8 : decode cX4_takeLeast 8 = .ok (.iconst 1, 1) := by decide +kernel
theorem dX4_takeLeast_9 : decode cX4_takeLeast 9 = .ok (.iadd, 1) := by decide +kernel
theorem dX4_takeLeast_10 : decode cX4_takeLeast 10 = .ok (.istore 4, 2) := by decide +kernel
theorem dX4_takeLeast_12 : decode cX4_takeLeast 12 = .ok (.iload 4, 2) := by decide +kernel
theorem dX4_takeLeast_14 : decode cX4_takeLeast 14 = .ok (.iload_n 2, 1) := by decide +kernel
theorem dX4_takeLeast_15 : decode cX4_takeLeast 15 = .ok (.aload_n 0, 1) := by decide +kernel
theorem dX4_takeLeast_16 : decode cX4_takeLeast 16 = .ok (.getfield 31, 3) := by decide +kernel
theorem dX4_takeLeast_19 : decode cX4_takeLeast 19 = .ok (.iadd, 1) := by decide +kernel
theorem dX4_takeLeast_20 : decode cX4_takeLeast 20 = .ok (.if_icmp .ge 28, 3) := by decide +kernel
theorem dX4_takeLeast_23 : decode cX4_takeLeast 23 = .ok (.aload_n 0, 1) := by decide +kernel
theorem dX4_takeLeast_24 : decode cX4_takeLeast 24 = .ok (.getfield 22, 3) := by decide +kernel
theorem dX4_takeLeast_27 : decode cX4_takeLeast 27 = .ok (.iload 4, 2) := by decide +kernel
theorem dX4_takeLeast_29 : decode cX4_takeLeast 29 = .ok (.iaload, 1) := by decide +kernel
theorem dX4_takeLeast_30 : decode cX4_takeLeast 30 = .ok (.aload_n 0, 1) := by decide +kernel
theorem dX4_takeLeast_31 : decode cX4_takeLeast 31 = .ok (.getfield 22, 3) := by decide +kernel
theorem dX4_takeLeast_34 : decode cX4_takeLeast 34 = .ok (.iload_n 3, 1) := by decide +kernel
theorem dX4_takeLeast_35 : decode cX4_takeLeast 35 = .ok (.iaload, 1) := by decide +kernel
theorem dX4_takeLeast_36 : decode cX4_takeLeast 36 = .ok (.if_icmp .ge 6, 3) := by decide +kernel
theorem dX4_takeLeast_39 : decode cX4_takeLeast 39 = .ok (.iload 4, 2) := by decide +kernel
theorem dX4_takeLeast_41 : decode cX4_takeLeast 41 = .ok (.istore_n 3, 1) := by decide +kernel
theorem dX4_takeLeast_42 : decode cX4_takeLeast 42 = .ok (.iinc 4 1, 3) := by decide +kernel
theorem dX4_takeLeast_45 : decode cX4_takeLeast 45 = .ok (.goto (-33), 3) := by decide +kernel
theorem dX4_takeLeast_48 : decode cX4_takeLeast 48 = .ok (.aload_n 0, 1) := by decide +kernel
theorem dX4_takeLeast_49 : decode cX4_takeLeast 49 = .ok (.getfield 22, 3) := by decide +kernel
theorem dX4_takeLeast_52 : decode cX4_takeLeast 52 = .ok (.iload_n 3, 1) := by decide +kernel
theorem dX4_takeLeast_53 : decode cX4_takeLeast 53 = .ok (.iaload, 1) := by decide +kernel
theorem dX4_takeLeast_54 : decode cX4_takeLeast 54 = .ok (.istore 4, 2) := by decide +kernel
theorem dX4_takeLeast_56 : decode cX4_takeLeast 56 = .ok (.aload_n 0, 1) := by decide +kernel
theorem dX4_takeLeast_57 : decode cX4_takeLeast 57 = .ok (.getfield 22, 3) := by decide +kernel
theorem dX4_takeLeast_60 : decode cX4_takeLeast 60 = .ok (.iload_n 3, 1) := by decide +kernel
theorem dX4_takeLeast_61 : decode cX4_takeLeast 61 = .ok (.ldc 83, 2) := by decide +kernel
theorem dX4_takeLeast_63 : decode cX4_takeLeast 63 = .ok (.iastore, 1) := by decide +kernel
theorem dX4_takeLeast_64 : decode cX4_takeLeast 64 = .ok (.iload 4, 2) := by decide +kernel
theorem dX4_takeLeast_66 : decode cX4_takeLeast 66 = .ok (.ireturn, 1) := by decide +kernel
theorem dX4_driverBehind_0 : decode cX4_driverBehind 0 = .ok (.iconst 0, 1) := by decide +kernel
theorem dX4_driverBehind_1 : decode cX4_driverBehind 1 = .ok (.istore_n 2, 1) := by decide +kernel
theorem dX4_driverBehind_2 : decode cX4_driverBehind 2 = .ok (.iconst 0, 1) := by decide +kernel
theorem dX4_driverBehind_3 : decode cX4_driverBehind 3 = .ok (.istore_n 3, 1) := by decide +kernel
theorem dX4_driverBehind_4 : decode cX4_driverBehind 4 = .ok (.iload_n 3, 1) := by decide +kernel
theorem dX4_driverBehind_5 : decode cX4_driverBehind 5 = .ok (.bipush 6, 2) := by decide +kernel
theorem dX4_driverBehind_7 : decode cX4_driverBehind 7 = .ok (.if_icmp .ge 49, 3) := by decide +kernel
theorem dX4_driverBehind_10 : decode cX4_driverBehind 10 = .ok (.iconst 0, 1) := by decide +kernel
theorem dX4_driverBehind_11 : decode cX4_driverBehind 11 = .ok (.istore 4, 2) := by decide +kernel
theorem dX4_driverBehind_13 : decode cX4_driverBehind 13 = .ok (.iconst 0, 1) := by decide +kernel
theorem dX4_driverBehind_14 : decode cX4_driverBehind 14 = .ok (.istore 5, 2) := by decide +kernel
theorem dX4_driverBehind_16 : decode cX4_driverBehind 16 = .ok (.iload 5, 2) := by decide +kernel
theorem dX4_driverBehind_18 : decode cX4_driverBehind 18 = .ok (.bipush 6, 2) := by decide +kernel
theorem dX4_driverBehind_20 : decode cX4_driverBehind 20 = .ok (.if_icmp .ge 22, 3) := by decide +kernel
theorem dX4_driverBehind_23 : decode cX4_driverBehind 23 = .ok (.aload_n 0, 1) := by decide +kernel
theorem dX4_driverBehind_24 : decode cX4_driverBehind 24 = .ok (.iload 5, 2) := by decide +kernel
theorem dX4_driverBehind_26 : decode cX4_driverBehind 26 = .ok (.iload_n 3, 1) := by decide +kernel
theorem dX4_driverBehind_27 : decode cX4_driverBehind 27 = .ok (.invokevirtual 84, 3) := by decide +kernel
theorem dX4_driverBehind_30 : decode cX4_driverBehind 30 = .ok (.ifCond .eq 6, 3) := by decide +kernel
theorem dX4_driverBehind_33 : decode cX4_driverBehind 33 = .ok (.iinc 4 1, 3) := by decide +kernel
theorem dX4_driverBehind_36 : decode cX4_driverBehind 36 = .ok (.iinc 5 1, 3) := by decide +kernel
theorem dX4_driverBehind_39 : decode cX4_driverBehind 39 = .ok (.goto (-23), 3) := by decide +kernel
theorem dX4_driverBehind_42 : decode cX4_driverBehind 42 = .ok (.iload 4, 2) := by decide +kernel
theorem dX4_driverBehind_44 : decode cX4_driverBehind 44 = .ok (.iload_n 1, 1) := by decide +kernel
theorem dX4_driverBehind_45 : decode cX4_driverBehind 45 = .ok (.if_icmp .ne 5, 3) := by decide +kernel
theorem dX4_driverBehind_48 : decode cX4_driverBehind 48 = .ok (.iload_n 3, 1) := by decide +kernel
theorem dX4_driverBehind_49 : decode cX4_driverBehind 49 = .ok (.istore_n 2, 1) := by decide +kernel
theorem dX4_driverBehind_50 : decode cX4_driverBehind 50 = .ok (.iinc 3 1, 3) := by decide +kernel
theorem dX4_driverBehind_53 : decode cX4_driverBehind 53 = .ok (.goto (-49), 3) := by decide +kernel
theorem dX4_driverBehind_56 : decode cX4_driverBehind 56 = .ok (.iload_n 2, 1) := by decide +kernel
theorem dX4_driverBehind_57 : decode cX4_driverBehind 57 = .ok (.ireturn, 1) := by decide +kernel
theorem dX4_isAheadInSeason_0 : decode cX4_isAheadInSeason 0 = .ok (.aload_n 0, 1) := by decide +kernel
theorem dX4_isAheadInSeason_1 : decode cX4_isAheadInSeason 1 = .ok (.getfield 25, 3) := by decide +kernel
theorem dX4_isAheadInSeason_4 : decode cX4_isAheadInSeason 4 = .ok (.iload_n 1, 1) := by decide +kernel
theorem dX4_isAheadInSeason_5 : decode cX4_isAheadInSeason 5 = .ok (.iaload, 1) := by decide +kernel
theorem dX4_isAheadInSeason_6 : decode cX4_isAheadInSeason 6 = .ok (.aload_n 0, 1) := by decide +kernel
theorem dX4_isAheadInSeason_7 : decode cX4_isAheadInSeason 7 = .ok (.getfield 25, 3) := by decide +kernel
theorem dX4_isAheadInSeason_10 : decode cX4_isAheadInSeason 10 = .ok (.iload_n 2, 1) := by decide +kernel
theorem dX4_isAheadInSeason_11 : decode cX4_isAheadInSeason 11 = .ok (.iaload, 1) := by decide +kernel
theorem dX4_isAheadInSeason_12 : decode cX4_isAheadInSeason 12 = .ok (.if_icmp .eq 24, 3) := by decide +kernel
theorem dX4_isAheadInSeason_15 : decode cX4_isAheadInSeason 15 = .ok (.aload_n 0, 1) := by decide +kernel
theorem dX4_isAheadInSeason_16 : decode cX4_isAheadInSeason 16 = .ok (.getfield 25, 3) := by decide +kernel
theorem dX4_isAheadInSeason_19 : decode cX4_isAheadInSeason 19 = .ok (.iload_n 1, 1) := by decide +kernel
theorem dX4_isAheadInSeason_20 : decode cX4_isAheadInSeason 20 = .ok (.iaload, 1) := by decide +kernel
theorem dX4_isAheadInSeason_21 : decode cX4_isAheadInSeason 21 = .ok (.aload_n 0, 1) := by decide +kernel
theorem dX4_isAheadInSeason_22 : decode cX4_isAheadInSeason 22 = .ok (.getfield 25, 3) := by decide +kernel
theorem dX4_isAheadInSeason_25 : decode cX4_isAheadInSeason 25 = .ok (.iload_n 2, 1) := by decide +kernel
theorem dX4_isAheadInSeason_26 : decode cX4_isAheadInSeason 26 = .ok (.iaload, 1) := by decide +kernel
theorem dX4_isAheadInSeason_27 : decode cX4_isAheadInSeason 27 = .ok (.if_icmp .le 7, 3) := by decide +kernel
theorem dX4_isAheadInSeason_30 : decode cX4_isAheadInSeason 30 = .ok (.iconst 1, 1) := by decide +kernel
theorem dX4_isAheadInSeason_31 : decode cX4_isAheadInSeason 31 = .ok (.goto 4, 3) := by decide +kernel
theorem dX4_isAheadInSeason_34 : decode cX4_isAheadInSeason 34 = .ok (.iconst 0, 1) := by decide +kernel
theorem dX4_isAheadInSeason_35 : decode cX4_isAheadInSeason 35 = .ok (.ireturn, 1) := by decide +kernel
theorem dX4_isAheadInSeason_36 : decode cX4_isAheadInSeason 36 = .ok (.aload_n 0, 1) := by decide +kernel
theorem dX4_isAheadInSeason_37 : decode cX4_isAheadInSeason 37 = .ok (.getfield 28, 3) := by decide +kernel
theorem dX4_isAheadInSeason_40 : decode cX4_isAheadInSeason 40 = .ok (.iload_n 1, 1) := by decide +kernel
theorem dX4_isAheadInSeason_41 : decode cX4_isAheadInSeason 41 = .ok (.iaload, 1) := by decide +kernel
theorem dX4_isAheadInSeason_42 : decode cX4_isAheadInSeason 42 = .ok (.aload_n 0, 1) := by decide +kernel
theorem dX4_isAheadInSeason_43 : decode cX4_isAheadInSeason 43 = .ok (.getfield 28, 3) := by decide +kernel
theorem dX4_isAheadInSeason_46 : decode cX4_isAheadInSeason 46 = .ok (.iload_n 2, 1) := by decide +kernel
theorem dX4_isAheadInSeason_47 : decode cX4_isAheadInSeason 47 = .ok (.iaload, 1) := by decide +kernel
theorem dX4_isAheadInSeason_48 : decode cX4_isAheadInSeason 48 = .ok (.if_icmp .eq 24, 3) := by decide +kernel
theorem dX4_isAheadInSeason_51 : decode cX4_isAheadInSeason 51 = .ok (.aload_n 0, 1) := by decide +kernel
theorem dX4_isAheadInSeason_52 : decode cX4_isAheadInSeason 52 = .ok (.getfield 28, 3) := by decide +kernel
theorem dX4_isAheadInSeason_55 : decode cX4_isAheadInSeason 55 = .ok (.iload_n 1, 1) := by decide +kernel
theorem dX4_isAheadInSeason_56 : decode cX4_isAheadInSeason 56 = .ok (.iaload, 1) := by decide +kernel
theorem dX4_isAheadInSeason_57 : decode cX4_isAheadInSeason 57 = .ok (.aload_n 0, 1) := by decide +kernel
theorem dX4_isAheadInSeason_58 : decode cX4_isAheadInSeason 58 = .ok (.getfield 28, 3) := by decide +kernel
theorem dX4_isAheadInSeason_61 : decode cX4_isAheadInSeason 61 = .ok (.iload_n 2, 1) := by decide +kernel
theorem dX4_isAheadInSeason_62 : decode cX4_isAheadInSeason 62 = .ok (.iaload, 1) := by decide +kernel
theorem dX4_isAheadInSeason_63 : decode cX4_isAheadInSeason 63 = .ok (.if_icmp .le 7, 3) := by decide +kernel
theorem dX4_isAheadInSeason_66 : decode cX4_isAheadInSeason 66 = .ok (.iconst 1, 1) := by decide +kernel
theorem dX4_isAheadInSeason_67 : decode cX4_isAheadInSeason 67 = .ok (.goto 4, 3) := by decide +kernel
theorem dX4_isAheadInSeason_70 : decode cX4_isAheadInSeason 70 = .ok (.iconst 0, 1) := by decide +kernel
theorem dX4_isAheadInSeason_71 : decode cX4_isAheadInSeason 71 = .ok (.ireturn, 1) := by decide +kernel
theorem dX4_isAheadInSeason_72 : decode cX4_isAheadInSeason 72 = .ok (.iload_n 1, 1) := by decide +kernel
theorem dX4_isAheadInSeason_73 : decode cX4_isAheadInSeason 73 = .ok (.iload_n 2, 1) := by decide +kernel
theorem dX4_isAheadInSeason_74 : decode cX4_isAheadInSeason 74 = .ok (.if_icmp .ge 7, 3) := by decide +kernel
theorem dX4_isAheadInSeason_77 : decode cX4_isAheadInSeason 77 = .ok (.iconst 1, 1) := by decide +kernel
theorem dX4_isAheadInSeason_78 : decode cX4_isAheadInSeason 78 = .ok (.goto 4, 3) := by decide +kernel
theorem dX4_isAheadInSeason_81 : decode cX4_isAheadInSeason 81 = .ok (.iconst 0, 1) := by decide +kernel
theorem dX4_isAheadInSeason_82 : decode cX4_isAheadInSeason 82 = .ok (.ireturn, 1) := by decide +kernel
theorem dX5_init_0 : decode cX5_init 0 = .ok (.aload_n 0, 1) := by decide +kernel
theorem dX5_init_1 : decode cX5_init 1 = .ok (.invokespecial 3, 3) := by decide +kernel
theorem dX5_init_4 : decode cX5_init 4 = .ok (.aload_n 0, 1) := by decide +kernel
theorem dX5_init_5 : decode cX5_init 5 = .ok (.bipush 12, 2) := by decide +kernel
theorem dX5_init_7 : decode cX5_init 7 = .ok (.newarray .int, 2) := by decide +kernel
theorem dX5_init_9 : decode cX5_init 9 = .ok (.putfield 9, 3) := by decide +kernel
theorem dX5_init_12 : decode cX5_init 12 = .ok (.aload_n 0, 1) := by decide +kernel
theorem dX5_init_13 : decode cX5_init 13 = .ok (.bipush 12, 2) := by decide +kernel
theorem dX5_init_15 : decode cX5_init 15 = .ok (.newarray .int, 2) := by decide +kernel
theorem dX5_init_17 : decode cX5_init 17 = .ok (.putfield 15, 3) := by decide +kernel
theorem dX5_init_20 : decode cX5_init 20 = .ok (.return_, 1) := by decide +kernel
theorem dX5_append_0 : decode cX5_append 0 = .ok (.aload_n 0, 1) := by decide +kernel
theorem dX5_append_1 : decode cX5_append 1 = .ok (.getfield 18, 3) := by decide +kernel
theorem dX5_append_4 : decode cX5_append 4 = .ok (.bipush 12, 2) := by decide +kernel
theorem dX5_append_6 : decode cX5_append 6 = .ok (.if_icmp .ge 46, 3) := by decide +kernel
theorem dX5_append_9 : decode cX5_append 9 = .ok (.aload_n 0, 1) := by decide +kernel
theorem dX5_append_10 : decode cX5_append 10 = .ok (.dup, 1) := by decide +kernel
theorem dX5_append_11 : decode cX5_append 11 = .ok (.getfield 22, 3) := by decide +kernel
theorem dX5_append_14 : decode cX5_append 14 = .ok (.iload_n 1, 1) := by decide +kernel
theorem dX5_append_15 : decode cX5_append 15 = .ok (.iadd, 1) := by decide +kernel
theorem dX5_append_16 : decode cX5_append 16 = .ok (.putfield 22, 3) := by decide +kernel
theorem dX5_append_19 : decode cX5_append 19 = .ok (.aload_n 0, 1) := by decide +kernel
theorem dX5_append_20 : decode cX5_append 20 = .ok (.getfield 9, 3) := by decide +kernel
theorem dX5_append_23 : decode cX5_append 23 = .ok (.aload_n 0, 1) := by decide +kernel
theorem dX5_append_24 : decode cX5_append 24 = .ok (.getfield 18, 3) := by decide +kernel
theorem dX5_append_27 : decode cX5_append 27 = .ok (.aload_n 0, 1) := by decide +kernel
theorem dX5_append_28 : decode cX5_append 28 = .ok (.getfield 22, 3) := by decide +kernel
theorem dX5_append_31 : decode cX5_append 31 = .ok (.iastore, 1) := by decide +kernel
theorem dX5_append_32 : decode cX5_append 32 = .ok (.aload_n 0, 1) := by decide +kernel
theorem dX5_append_33 : decode cX5_append 33 = .ok (.getfield 15, 3) := by decide +kernel
theorem dX5_append_36 : decode cX5_append 36 = .ok (.aload_n 0, 1) := by decide +kernel
theorem dX5_append_37 : decode cX5_append 37 = .ok (.getfield 18, 3) := by decide +kernel
theorem dX5_append_40 : decode cX5_append 40 = .ok (.iload_n 2, 1) := by decide +kernel
theorem dX5_append_41 : decode cX5_append 41 = .ok (.iastore, 1) := by decide +kernel
theorem dX5_append_42 : decode cX5_append 42 = .ok (.aload_n 0, 1) := by decide +kernel
theorem dX5_append_43 : decode cX5_append 43 = .ok (.dup, 1) := by decide +kernel
theorem dX5_append_44 : decode cX5_append 44 = .ok (.getfield 18, 3) := by decide +kernel
theorem dX5_append_47 : decode cX5_append 47 = .ok (.iconst 1, 1) := by decide +kernel
theorem dX5_append_48 : decode cX5_append 48 = .ok (.iadd, 1) := by decide +kernel
theorem dX5_append_49 : decode cX5_append 49 = .ok (.putfield 18, 3) := by decide +kernel
theorem dX5_append_52 : decode cX5_append 52 = .ok (.return_, 1) := by decide +kernel
theorem dX5_limitOf_0 : decode cX5_limitOf 0 = .ok (.iconst 0, 1) := by decide +kernel
theorem dX5_limitOf_1 : decode cX5_limitOf 1 = .ok (.istore_n 2, 1) := by decide +kernel
theorem dX5_limitOf_2 : decode cX5_limitOf 2 = .ok (.iload_n 2, 1) := by decide +kernel
theorem dX5_limitOf_3 : decode cX5_limitOf 3 = .ok (.aload_n 0, 1) := by decide +kernel
theorem dX5_limitOf_4 : decode cX5_limitOf 4 = .ok (.getfield 18, 3) := by decide +kernel
theorem dX5_limitOf_7 : decode cX5_limitOf 7 = .ok (.if_icmp .ge 26, 3) := by decide +kernel
theorem dX5_limitOf_10 : decode cX5_limitOf 10 = .ok (.iload_n 1, 1) := by decide +kernel
theorem dX5_limitOf_11 : decode cX5_limitOf 11 = .ok (.aload_n 0, 1) := by decide +kernel
theorem dX5_limitOf_12 : decode cX5_limitOf 12 = .ok (.getfield 9, 3) := by decide +kernel
theorem dX5_limitOf_15 : decode cX5_limitOf 15 = .ok (.iload_n 2, 1) := by decide +kernel
theorem dX5_limitOf_16 : decode cX5_limitOf 16 = .ok (.iaload, 1) := by decide +kernel
theorem dX5_limitOf_17 : decode cX5_limitOf 17 = .ok (.if_icmp .ge 10, 3) := by decide +kernel
theorem dX5_limitOf_20 : decode cX5_limitOf 20 = .ok (.aload_n 0, 1) := by decide +kernel
theorem dX5_limitOf_21 : decode cX5_limitOf 21 = .ok (.getfield 15, 3) := by decide +kernel
theorem dX5_limitOf_24 : decode cX5_limitOf 24 = .ok (.iload_n 2, 1) := by decide +kernel
theorem dX5_limitOf_25 : decode cX5_limitOf 25 = .ok (.iaload, 1) := by decide +kernel
theorem dX5_limitOf_26 : decode cX5_limitOf 26 = .ok (.ireturn, 1) := by decide +kernel
theorem dX5_limitOf_27 : decode cX5_limitOf 27 = .ok (.iinc 2 1, 3) := by decide +kernel
theorem dX5_limitOf_30 : decode cX5_limitOf 30 = .ok (.goto (-28), 3) := by decide +kernel
theorem dX5_limitOf_33 : decode cX5_limitOf 33 = .ok (.iconst 0, 1) := by decide +kernel
theorem dX5_limitOf_34 : decode cX5_limitOf 34 = .ok (.ireturn, 1) := by decide +kernel
theorem dX6_init_0 : decode cX6_init 0 = .ok (.aload_n 0, 1) := by decide +kernel
theorem dX6_init_1 : decode cX6_init 1 = .ok (.invokespecial 1, 3) := by decide +kernel
theorem dX6_init_4 : decode cX6_init 4 = .ok (.aload_n 0, 1) := by decide +kernel
theorem dX6_init_5 : decode cX6_init 5 = .ok (.iconst 4, 1) := by decide +kernel
theorem dX6_init_6 : decode cX6_init 6 = .ok (.anewarray 9, 3) := by decide +kernel
theorem dX6_init_9 : decode cX6_init 9 = .ok (.putfield 11, 3) := by decide +kernel
theorem dX6_init_12 : decode cX6_init 12 = .ok (.aload_n 0, 1) := by decide +kernel
theorem dX6_init_13 : decode cX6_init 13 = .ok (.iconst 4, 1) := by decide +kernel
theorem dX6_init_14 : decode cX6_init 14 = .ok (.anewarray 15, 3) := by decide +kernel
theorem dX6_init_17 : decode cX6_init 17 = .ok (.putfield 17, 3) := by decide +kernel
theorem dX6_init_20 : decode cX6_init 20 = .ok (.aload_n 0, 1) := by decide +kernel
theorem dX6_init_21 : decode cX6_init 21 = .ok (.bipush 60, 2) := by decide +kernel
theorem dX6_init_23 : decode cX6_init 23 = .ok (.newarray .char, 2) := by decide +kernel
theorem dX6_init_25 : decode cX6_init 25 = .ok (.putfield 21, 3) := by decide +kernel
theorem dX6_init_28 : decode cX6_init 28 = .ok (.aload_n 0, 1) := by decide +kernel
theorem dX6_init_29 : decode cX6_init 29 = .ok (.new 25, 3) := by decide +kernel
theorem dX6_init_32 : decode cX6_init 32 = .ok (.dup, 1) := by decide +kernel
theorem dX6_init_33 : decode cX6_init 33 = .ok (.invokespecial 27, 3) := by decide +kernel
theorem dX6_init_36 : decode cX6_init 36 = .ok (.putfield 28, 3) := by decide +kernel
theorem dX6_init_39 : decode cX6_init 39 = .ok (.aload_n 0, 1) := by decide +kernel
theorem dX6_init_40 : decode cX6_init 40 = .ok (.new 32, 3) := by decide +kernel
theorem dX6_init_43 : decode cX6_init 43 = .ok (.dup, 1) := by decide +kernel
theorem dX6_init_44 : decode cX6_init 44 = .ok (.invokespecial 34, 3) := by decide +kernel
theorem dX6_init_47 : decode cX6_init 47 = .ok (.putfield 35, 3) := by decide +kernel
theorem dX6_init_50 : decode cX6_init 50 = .ok (.aload_n 0, 1) := by decide +kernel
theorem dX6_init_51 : decode cX6_init 51 = .ok (.new 39, 3) := by decide +kernel
theorem dX6_init_54 : decode cX6_init 54 = .ok (.dup, 1) := by decide +kernel
theorem dX6_init_55 : decode cX6_init 55 = .ok (.invokespecial 41, 3) := by decide +kernel
theorem dX6_init_58 : decode cX6_init 58 = .ok (.putfield 42, 3) := by decide +kernel
theorem dX6_init_61 : decode cX6_init 61 = .ok (.iconst 0, 1) := by decide +kernel
theorem dX6_init_62 : decode cX6_init 62 = .ok (.istore_n 1, 1) := by decide +kernel
theorem dX6_init_63 : decode cX6_init 63 = .ok (.iload_n 1, 1) := by decide +kernel
theorem dX6_init_64 : decode cX6_init 64 = .ok (.iconst 4, 1) := by decide +kernel
theorem dX6_init_65 : decode cX6_init 65 = .ok (.if_icmp .ge 22, 3) := by decide +kernel
theorem dX6_init_68 : decode cX6_init 68 = .ok (.aload_n 0, 1) := by decide +kernel
theorem dX6_init_69 : decode cX6_init 69 = .ok (.getfield 11, 3) := by decide +kernel
theorem dX6_init_72 : decode cX6_init 72 = .ok (.iload_n 1, 1) := by decide +kernel
theorem dX6_init_73 : decode cX6_init 73 = .ok (.new 9, 3) := by decide +kernel
theorem dX6_init_76 : decode cX6_init 76 = .ok (.dup, 1) := by decide +kernel
theorem dX6_init_77 : decode cX6_init 77 = .ok (.invokespecial 46, 3) := by decide +kernel
theorem dX6_init_80 : decode cX6_init 80 = .ok (.aastore, 1) := by decide +kernel
theorem dX6_init_81 : decode cX6_init 81 = .ok (.iinc 1 1, 3) := by decide +kernel
theorem dX6_init_84 : decode cX6_init 84 = .ok (.goto (-21), 3) := by decide +kernel
theorem dX6_init_87 : decode cX6_init 87 = .ok (.iconst 0, 1) := by decide +kernel
theorem dX6_init_88 : decode cX6_init 88 = .ok (.istore_n 1, 1) := by decide +kernel
theorem dX6_init_89 : decode cX6_init 89 = .ok (.iload_n 1, 1) := by decide +kernel
theorem dX6_init_90 : decode cX6_init 90 = .ok (.iconst 4, 1) := by decide +kernel
theorem dX6_init_91 : decode cX6_init 91 = .ok (.if_icmp .ge 22, 3) := by decide +kernel
theorem dX6_init_94 : decode cX6_init 94 = .ok (.aload_n 0, 1) := by decide +kernel
theorem dX6_init_95 : decode cX6_init 95 = .ok (.getfield 17, 3) := by decide +kernel
theorem dX6_init_98 : decode cX6_init 98 = .ok (.iload_n 1, 1) := by decide +kernel
theorem dX6_init_99 : decode cX6_init 99 = .ok (.new 15, 3) := by decide +kernel
theorem dX6_init_102 : decode cX6_init 102 = .ok (.dup, 1) := by decide +kernel
theorem dX6_init_103 : decode cX6_init 103 = .ok (.invokespecial 47, 3) := by decide +kernel
theorem dX6_init_106 : decode cX6_init 106 = .ok (.aastore, 1) := by decide +kernel
theorem dX6_init_107 : decode cX6_init 107 = .ok (.iinc 1 1, 3) := by decide +kernel
theorem dX6_init_110 : decode cX6_init 110 = .ok (.goto (-21), 3) := by decide +kernel
theorem dX6_init_113 : decode cX6_init 113 = .ok (.return_, 1) := by decide +kernel
theorem dX6_track_0 : decode cX6_track 0 = .ok (.aload_n 0, 1) := by decide +kernel
theorem dX6_track_1 : decode cX6_track 1 = .ok (.getfield 48, 3) := by decide +kernel
theorem dX6_track_4 : decode cX6_track 4 = .ok (.iconst 4, 1) := by decide +kernel
theorem dX6_track_5 : decode cX6_track 5 = .ok (.if_icmp .lt 13, 3) := by decide +kernel
theorem dX6_track_8 : decode cX6_track 8 = .ok (.new 52, 3) := by decide +kernel
theorem dX6_track_11 : decode cX6_track 11 = .ok (.dup, 1) := by decide +kernel
theorem dX6_track_12 : decode cX6_track 12 = .ok (.ldc 54, 2) := by decide +kernel
theorem dX6_track_14 : decode cX6_track 14 = .ok (.invokespecial 56, 3) := by decide +kernel
theorem dX6_track_17 : decode cX6_track 17 = .ok (.athrow, 1) := by decide +kernel
theorem dX6_track_18 : decode cX6_track 18 = .ok (.aload_n 0, 1) := by decide +kernel
theorem dX6_track_19 : decode cX6_track 19 = .ok (.dup, 1) := by decide +kernel
theorem dX6_track_20 : decode cX6_track 20 = .ok (.getfield 48, 3) := by decide +kernel
theorem dX6_track_23 : decode cX6_track 23 = .ok (.iconst 1, 1) := by decide +kernel
theorem dX6_track_24 : decode cX6_track 24 = .ok (.iadd, 1) := by decide +kernel
theorem dX6_track_25 : decode cX6_track 25 = .ok (.putfield 48, 3) := by decide +kernel
theorem dX6_track_28 : decode cX6_track 28 = .ok (.aload_n 0, 1) := by decide +kernel
theorem dX6_track_29 : decode cX6_track 29 = .ok (.getfield 48, 3) := by decide +kernel
theorem dX6_track_32 : decode cX6_track 32 = .ok (.iconst 1, 1) := by decide +kernel
theorem dX6_track_33 : decode cX6_track 33 = .ok (.isub, 1) := by decide +kernel
theorem dX6_track_34 : decode cX6_track 34 = .ok (.ireturn, 1) := by decide +kernel
theorem dX6_stretch_0 : decode cX6_stretch 0 = .ok (.aload_n 0, 1) := by decide +kernel
theorem dX6_stretch_1 : decode cX6_stretch 1 = .ok (.iload_n 1, 1) := by decide +kernel
theorem dX6_stretch_2 : decode cX6_stretch 2 = .ok (.invokevirtual 59, 3) := by decide +kernel
theorem dX6_stretch_5 : decode cX6_stretch 5 = .ok (.astore 4, 2) := by decide +kernel
theorem dX6_stretch_7 : decode cX6_stretch 7 = .ok (.iload_n 2, 1) := by decide +kernel
theorem dX6_stretch_8 : decode cX6_stretch 8 = .ok (.iconst 1, 1) := by decide +kernel
theorem dX6_stretch_9 : decode cX6_stretch 9 = .ok (.bipush 30, 2) := by decide +kernel
theorem dX6_stretch_11 : decode cX6_stretch 11 = .ok (.invokestatic 63, 3) := by decide +kernel
theorem dX6_stretch_14 : decode cX6_stretch 14 = .ok (.ifCond .eq 13, 3) := by decide +kernel
theorem dX6_stretch_17 : decode cX6_stretch 17 = .ok (.iload_n 3, 1) := by decide +kernel
theorem dX6_stretch_18 : decode cX6_stretch 18 = .ok (.iconst 1, 1) := by decide +kernel
theorem dX6_stretch_19 : decode cX6_stretch 19 = .ok (.bipush 9, 2) := by decide +kernel
theorem dX6_stretch_21 : decode cX6_stretch 21 = .ok (.invokestatic 63, 3) := by decide +kernel
theorem dX6_stretch_24 : decode cX6_stretch 24 = .ok (.ifCond .ne 13, 3) := by decide +kernel
theorem dX6_stretch_27 : decode cX6_stretch 27 = .ok (.new 67, 3) := by decide +kernel
theorem dX6_stretch_30 : decode cX6_stretch 30 = .ok (.dup, 1) := by decide +kernel
theorem dX6_stretch_31 : decode cX6_stretch 31 = .ok (.ldc 69, 2) := by decide +kernel
theorem dX6_stretch_33 : decode cX6_stretch 33 = .ok (.invokespecial 71, 3) := by decide +kernel
theorem dX6_stretch_36 : decode cX6_stretch 36 = .ok (.athrow, 1) := by decide +kernel
theorem dX6_stretch_37 : decode cX6_stretch 37 = .ok (.aload 4, 2) := by decide +kernel
theorem dX6_stretch_39 : decode cX6_stretch 39 = .ok (.getfield 72, 3) := by decide +kernel
theorem dX6_stretch_42 : decode cX6_stretch 42 = .ok (.ifCond .eq 13, 3) := by decide +kernel
theorem dX6_stretch_45 : decode cX6_stretch 45 = .ok (.new 76, 3) := by decide +kernel
theorem dX6_stretch_48 : decode cX6_stretch 48 = .ok (.dup, 1) := by decide +kernel
theorem dX6_stretch_49 : decode cX6_stretch 49 = .ok (.ldc 78, 2) := by decide +kernel
theorem dX6_stretch_51 : decode cX6_stretch 51 = .ok (.invokespecial 80, 3) := by decide +kernel
theorem dX6_stretch_54 : decode cX6_stretch 54 = .ok (.athrow, 1) := by decide +kernel
theorem dX6_stretch_55 : decode cX6_stretch 55 = .ok (.aload 4, 2) := by decide +kernel
theorem dX6_stretch_57 : decode cX6_stretch 57 = .ok (.getfield 81, 3) := by decide +kernel
theorem dX6_stretch_60 : decode cX6_stretch 60 = .ok (.bipush 12, 2) := by decide +kernel
theorem dX6_stretch_62 : decode cX6_stretch 62 = .ok (.if_icmp .lt 13, 3) := by decide +kernel
theorem dX6_stretch_65 : decode cX6_stretch 65 = .ok (.new 52, 3) := by decide +kernel
theorem dX6_stretch_68 : decode cX6_stretch 68 = .ok (.dup, 1) := by decide +kernel
theorem dX6_stretch_69 : decode cX6_stretch 69 = .ok (.ldc 84, 2) := by decide +kernel
theorem dX6_stretch_71 : decode cX6_stretch 71 = .ok (.invokespecial 56, 3) := by decide +kernel
theorem dX6_stretch_74 : decode cX6_stretch 74 = .ok (.athrow, 1) := by decide +kernel
theorem dX6_stretch_75 : decode cX6_stretch 75 = .ok (.aload 4, 2) := by decide +kernel
theorem dX6_stretch_77 : decode cX6_stretch 77 = .ok (.iload_n 2, 1) := by decide +kernel
theorem dX6_stretch_78 : decode cX6_stretch 78 = .ok (.iload_n 3, 1) := by decide +kernel
theorem dX6_stretch_79 : decode cX6_stretch 79 = .ok (.invokevirtual 86, 3) := by decide +kernel
theorem dX6_stretch_82 : decode cX6_stretch 82 = .ok (.aload 4, 2) := by decide +kernel
theorem dX6_stretch_84 : decode cX6_stretch 84 = .ok (.getfield 90, 3) := by decide +kernel
theorem dX6_stretch_87 : decode cX6_stretch 87 = .ok (.ireturn, 1) := by decide +kernel
theorem dX6_car_0 : decode cX6_car 0 = .ok (.iload_n 1, 1) := by decide +kernel
theorem dX6_car_1 : decode cX6_car 1 = .ok (.iconst 1, 1) := by decide +kernel
theorem dX6_car_2 : decode cX6_car 2 = .ok (.bipush 9, 2) := by decide +kernel
theorem dX6_car_4 : decode cX6_car 4 = .ok (.invokestatic 63, 3) := by decide +kernel
theorem dX6_car_7 : decode cX6_car 7 = .ok (.ifCond .eq 21, 3) := by decide +kernel
theorem dX6_car_10 : decode cX6_car 10 = .ok (.iload_n 2, 1) := by decide +kernel
theorem dX6_car_11 : decode cX6_car 11 = .ok (.iconst 1, 1) := by decide +kernel
theorem dX6_car_12 : decode cX6_car 12 = .ok (.iconst 4, 1) := by decide +kernel
theorem dX6_car_13 : decode cX6_car 13 = .ok (.invokestatic 63, 3) := by decide +kernel
theorem dX6_car_16 : decode cX6_car 16 = .ok (.ifCond .eq 12, 3) := by decide +kernel
theorem dX6_car_19 : decode cX6_car 19 = .ok (.iload_n 3, 1) := by decide +kernel
theorem dX6_car_20 : decode cX6_car 20 = .ok (.iconst 0, 1) := by decide +kernel
theorem dX6_car_21 : decode cX6_car 21 = .ok (.iconst 3, 1) := by decide +kernel
theorem dX6_car_22 : decode cX6_car 22 = .ok (.invokestatic 63, 3) := by decide +kernel
theorem dX6_car_25 : decode cX6_car 25 = .ok (.ifCond .ne 13, 3) := by decide +kernel
theorem dX6_car_28 : decode cX6_car 28 = .ok (.new 67, 3) := by decide +kernel
theorem dX6_car_31 : decode cX6_car 31 = .ok (.dup, 1) := by decide +kernel
theorem dX6_car_32 : decode cX6_car 32 = .ok (.ldc 93, 2) := by decide +kernel
theorem dX6_car_34 : decode cX6_car 34 = .ok (.invokespecial 71, 3) := by decide +kernel
theorem dX6_car_37 : decode cX6_car 37 = .ok (.athrow, 1) := by decide +kernel
theorem dX6_car_38 : decode cX6_car 38 = .ok (.aload_n 0, 1) := by decide +kernel
theorem dX6_car_39 : decode cX6_car 39 = .ok (.getfield 95, 3) := by decide +kernel
theorem dX6_car_42 : decode cX6_car 42 = .ok (.iconst 4, 1) := by decide +kernel
theorem dX6_car_43 : decode cX6_car 43 = .ok (.if_icmp .lt 13, 3) := by decide +kernel
theorem dX6_car_46 : decode cX6_car 46 = .ok (.new 52, 3) := by decide +kernel
theorem dX6_car_49 : decode cX6_car 49 = .ok (.dup, 1) := by decide +kernel
theorem dX6_car_50 : decode cX6_car 50 = .ok (.ldc 98, 2) := by decide +kernel
theorem dX6_car_52 : decode cX6_car 52 = .ok (.invokespecial 56, 3) := by decide +kernel
theorem dX6_car_55 : decode cX6_car 55 = .ok (.athrow, 1) := by decide +kernel
theorem dX6_car_56 : decode cX6_car 56 = .ok (.aload_n 0, 1) := by decide +kernel
theorem dX6_car_57 : decode cX6_car 57 = .ok (.getfield 17, 3) := by decide +kernel
theorem dX6_car_60 : decode cX6_car 60 = .ok (.aload_n 0, 1) := by decide +kernel
theorem dX6_car_61 : decode cX6_car 61 = .ok (.getfield 95, 3) := by decide +kernel
theorem dX6_car_64 : decode cX6_car 64 = .ok (.aaload, 1) := by decide +kernel
theorem dX6_car_65 : decode cX6_car 65 = .ok (.astore 4, 2) := by decide +kernel
theorem dX6_car_67 : decode cX6_car 67 = .ok (.aload 4, 2) := by decide +kernel
theorem dX6_car_69 : decode cX6_car 69 = .ok (.iload_n 1, 1) := by decide +kernel
theorem dX6_car_70 : decode cX6_car 70 = .ok (.putfield 100, 3) := by decide +kernel
theorem dX6_car_73 : decode cX6_car 73 = .ok (.aload 4, 2) := by decide +kernel
theorem dX6_car_75 : decode cX6_car 75 = .ok (.iload_n 2, 1) := by decide +kernel
theorem dX6_car_76 : decode cX6_car 76 = .ok (.putfield 103, 3) := by decide +kernel
theorem dX6_car_79 : decode cX6_car 79 = .ok (.aload 4, 2) := by decide +kernel
theorem dX6_car_81 : decode cX6_car 81 = .ok (.iload_n 3, 1) := by decide +kernel
theorem dX6_car_82 : decode cX6_car 82 = .ok (.putfield 106, 3) := by decide +kernel
theorem dX6_car_85 : decode cX6_car 85 = .ok (.aload_n 0, 1) := by decide +kernel
theorem dX6_car_86 : decode cX6_car 86 = .ok (.dup, 1) := by decide +kernel
theorem dX6_car_87 : decode cX6_car 87 = .ok (.getfield 95, 3) := by decide +kernel
theorem dX6_car_90 : decode cX6_car 90 = .ok (.iconst 1, 1) := by decide +kernel
theorem dX6_car_91 : decode cX6_car 91 = .ok (.iadd, 1) := by decide +kernel
theorem dX6_car_92 : decode cX6_car 92 = .ok (.putfield 95, 3) := by decide +kernel
theorem dX6_car_95 : decode cX6_car 95 = .ok (.aload_n 0, 1) := by decide +kernel
theorem dX6_car_96 : decode cX6_car 96 = .ok (.getfield 95, 3) := by decide +kernel
theorem dX6_car_99 : decode cX6_car 99 = .ok (.iconst 1, 1) := by decide +kernel
theorem dX6_car_100 : decode cX6_car 100 = .ok (.isub, 1) := by decide +kernel
theorem dX6_car_101 : decode cX6_car 101 = .ok (.ireturn, 1) := by decide +kernel
theorem dX6_lengthOf_0 : decode cX6_lengthOf 0 = .ok (.aload_n 0, 1) := by decide +kernel
theorem dX6_lengthOf_1 : decode cX6_lengthOf 1 = .ok (.iload_n 1, 1) := by decide +kernel
theorem dX6_lengthOf_2 : decode cX6_lengthOf 2 = .ok (.invokevirtual 59, 3) := by decide +kernel
theorem dX6_lengthOf_5 : decode cX6_lengthOf 5 = .ok (.getfield 90, 3) := by decide +kernel
theorem dX6_lengthOf_8 : decode cX6_lengthOf 8 = .ok (.ireturn, 1) := by decide +kernel
theorem dX6_limitAt_0 : decode cX6_limitAt 0 = .ok (.aload_n 0, 1) := by decide +kernel
theorem dX6_limitAt_1 : decode cX6_limitAt 1 = .ok (.iload_n 1, 1) := by decide +kernel
theorem dX6_limitAt_2 : decode cX6_limitAt 2 = .ok (.invokevirtual 59, 3) := by decide +kernel
theorem dX6_limitAt_5 : decode cX6_limitAt 5 = .ok (.astore_n 3, 1) := by decide +kernel
theorem dX6_limitAt_6 : decode cX6_limitAt 6 = .ok (.iload_n 2, 1) := by decide +kernel
theorem dX6_limitAt_7 : decode cX6_limitAt 7 = .ok (.ifCond .lt 11, 3) := by decide +kernel
theorem dX6_limitAt_10 : decode cX6_limitAt 10 = .ok (.iload_n 2, 1) := by decide +kernel
theorem dX6_limitAt_11 : decode cX6_limitAt 11 = .ok (.aload_n 3, 1) := by decide +kernel
theorem dX6_limitAt_12 : decode cX6_limitAt 12 = .ok (.getfield 90, 3) := by decide +kernel
theorem dX6_limitAt_15 : decode cX6_limitAt 15 = .ok (.if_icmp .lt 13, 3) := by decide +kernel
theorem dX6_limitAt_18 : decode cX6_limitAt 18 = .ok (.new 109, 3) := by decide +kernel
theorem dX6_limitAt_21 : decode cX6_limitAt 21 = .ok (.dup, 1) := by decide +kernel
theorem dX6_limitAt_22 : decode cX6_limitAt 22 = .ok (.ldc 111, 2) := by decide +kernel
theorem dX6_limitAt_24 : decode cX6_limitAt 24 = .ok (.invokespecial 113, 3) := by decide +kernel
theorem dX6_limitAt_27 : decode cX6_limitAt 27 = .ok (.athrow, 1) := by decide +kernel
theorem dX6_limitAt_28 : decode cX6_limitAt 28 = .ok (.aload_n 3, 1) := by decide +kernel
theorem dX6_limitAt_29 : decode cX6_limitAt 29 = .ok (.iload_n 2, 1) := by decide +kernel
theorem dX6_limitAt_30 : decode cX6_limitAt 30 = .ok (.invokevirtual 114, 3) := by decide +kernel
theorem dX6_limitAt_33 : decode cX6_limitAt 33 = .ok (.ireturn, 1) := by decide +kernel
theorem dX6_type_0 : decode cX6_type 0 = .ok (.iload_n 1, 1) := by decide +kernel
theorem dX6_type_1 : decode cX6_type 1 = .ok (.bipush 43, 2) := by decide +kernel
theorem dX6_type_3 : decode cX6_type 3 = .ok (.if_icmp .eq 15, 3) := by decide +kernel
theorem dX6_type_6 : decode cX6_type 6 = .ok (.iload_n 1, 1) := by decide +kernel
theorem dX6_type_7 : decode cX6_type 7 = .ok (.bipush 45, 2) := by decide +kernel
theorem dX6_type_9 : decode cX6_type 9 = .ok (.if_icmp .eq 9, 3) := by decide +kernel
theorem dX6_type_12 : decode cX6_type 12 = .ok (.iload_n 1, 1) := by decide +kernel
theorem dX6_type_13 : decode cX6_type 13 = .ok (.bipush 61, 2) := by decide +kernel
theorem dX6_type_15 : decode cX6_type 15 = .ok (.if_icmp .ne 7, 3) := by decide +kernel
theorem dX6_type_18 : decode cX6_type 18 = .ok (.iconst 1, 1) := by decide +kernel
theorem dX6_type_19 : decode cX6_type 19 = .ok (.goto 4, 3) := by decide +kernel
theorem dX6_type_22 : decode cX6_type 22 = .ok (.iconst 0, 1) := by decide +kernel
theorem dX6_type_23 : decode cX6_type 23 = .ok (.istore_n 3, 1) := by decide +kernel
theorem dX6_type_24 : decode cX6_type 24 = .ok (.iload_n 3, 1) := by decide +kernel
theorem dX6_type_25 : decode cX6_type 25 = .ok (.ifCond .eq 13, 3) := by decide +kernel
theorem dX6_type_28 : decode cX6_type 28 = .ok (.iload_n 2, 1) := by decide +kernel
theorem dX6_type_29 : decode cX6_type 29 = .ok (.iconst 1, 1) := by decide +kernel
theorem dX6_type_30 : decode cX6_type 30 = .ok (.bipush 20, 2) := by decide +kernel
theorem dX6_type_32 : decode cX6_type 32 = .ok (.invokestatic 63, 3) := by decide +kernel
theorem dX6_type_35 : decode cX6_type 35 = .ok (.ifCond .ne 13, 3) := by decide +kernel
theorem dX6_type_38 : decode cX6_type 38 = .ok (.new 67, 3) := by decide +kernel
theorem dX6_type_41 : decode cX6_type 41 = .ok (.dup, 1) := by decide +kernel
theorem dX6_type_42 : decode cX6_type 42 = .ok (.ldc 118, 2) := by decide +kernel
theorem dX6_type_44 : decode cX6_type 44 = .ok (.invokespecial 71, 3) := by decide +kernel
theorem dX6_type_47 : decode cX6_type 47 = .ok (.athrow, 1) := by decide +kernel
theorem dX6_type_48 : decode cX6_type 48 = .ok (.aload_n 0, 1) := by decide +kernel
theorem dX6_type_49 : decode cX6_type 49 = .ok (.getfield 120, 3) := by decide +kernel
theorem dX6_type_52 : decode cX6_type 52 = .ok (.iload_n 2, 1) := by decide +kernel
theorem dX6_type_53 : decode cX6_type 53 = .ok (.iadd, 1) := by decide +kernel
theorem dX6_type_54 : decode cX6_type 54 = .ok (.istore 4, 2) := by decide +kernel
theorem dX6_type_56 : decode cX6_type 56 = .ok (.iload 4, 2) := by decide +kernel
theorem dX6_type_58 : decode cX6_type 58 = .ok (.bipush 60, 2) := by decide +kernel
theorem dX6_type_60 : decode cX6_type 60 = .ok (.if_icmp .le 13, 3) := by decide +kernel
theorem dX6_type_63 : decode cX6_type 63 = .ok (.new 52, 3) := by decide +kernel
theorem dX6_type_66 : decode cX6_type 66 = .ok (.dup, 1) := by decide +kernel
theorem dX6_type_67 : decode cX6_type 67 = .ok (.ldc 123, 2) := by decide +kernel
theorem dX6_type_69 : decode cX6_type 69 = .ok (.invokespecial 56, 3) := by decide +kernel
theorem dX6_type_72 : decode cX6_type 72 = .ok (.athrow, 1) := by decide +kernel
theorem dX6_type_73 : decode cX6_type 73 = .ok (.aload_n 0, 1) := by decide +kernel
theorem dX6_type_74 : decode cX6_type 74 = .ok (.getfield 120, 3) := by decide +kernel
theorem dX6_type_77 : decode cX6_type 77 = .ok (.istore 5, 2) := by decide +kernel
theorem dX6_type_79 : decode cX6_type 79 = .ok (.iload 5, 2) := by decide +kernel
theorem dX6_type_81 : decode cX6_type 81 = .ok (.iload 4, 2) := by decide +kernel
theorem dX6_type_83 : decode cX6_type 83 = .ok (.if_icmp .ge 17, 3) := by decide +kernel
theorem dX6_type_86 : decode cX6_type 86 = .ok (.aload_n 0, 1) := by decide +kernel
theorem dX6_type_87 : decode cX6_type 87 = .ok (.getfield 21, 3) := by decide +kernel
theorem dX6_type_90 : decode cX6_type 90 = .ok (.iload 5, 2) := by decide +kernel
theorem dX6_type_92 : decode cX6_type 92 = .ok (.iload_n 1, 1) := by decide +kernel
theorem dX6_type_93 : decode cX6_type 93 = .ok (.castore, 1) := by decide +kernel
theorem dX6_type_94 : decode cX6_type 94 = .ok (.iinc 5 1, 3) := by decide +kernel
theorem dX6_type_97 : decode cX6_type 97 = .ok (.goto (-18), 3) := by decide +kernel
theorem dX6_type_100 : decode cX6_type 100 = .ok (.aload_n 0, 1) := by decide +kernel
theorem dX6_type_101 : decode cX6_type 101 = .ok (.iload 4, 2) := by decide +kernel
theorem dX6_type_103 : decode cX6_type 103 = .ok (.putfield 120, 3) := by decide +kernel
theorem dX6_type_106 : decode cX6_type 106 = .ok (.aload_n 0, 1) := by decide +kernel
theorem dX6_type_107 : decode cX6_type 107 = .ok (.getfield 120, 3) := by decide +kernel
theorem dX6_type_110 : decode cX6_type 110 = .ok (.ireturn, 1) := by decide +kernel
theorem dX6_wipe_0 : decode cX6_wipe 0 = .ok (.aload_n 0, 1) := by decide +kernel
theorem dX6_wipe_1 : decode cX6_wipe 1 = .ok (.getfield 120, 3) := by decide +kernel
theorem dX6_wipe_4 : decode cX6_wipe 4 = .ok (.istore_n 1, 1) := by decide +kernel
theorem dX6_wipe_5 : decode cX6_wipe 5 = .ok (.aload_n 0, 1) := by decide +kernel
theorem dX6_wipe_6 : decode cX6_wipe 6 = .ok (.iconst 0, 1) := by decide +kernel
theorem dX6_wipe_7 : decode cX6_wipe 7 = .ok (.putfield 120, 3) := by decide +kernel
theorem dX6_wipe_10 : decode cX6_wipe 10 = .ok (.iload_n 1, 1) := by decide +kernel
theorem dX6_wipe_11 : decode cX6_wipe 11 = .ok (.ireturn, 1) := by decide +kernel
theorem dX6_drive_0 : decode cX6_drive 0 = .ok (.aload_n 0, 1) := by decide +kernel
theorem dX6_drive_1 : decode cX6_drive 1 = .ok (.iload_n 1, 1) := by decide +kernel
theorem dX6_drive_2 : decode cX6_drive 2 = .ok (.invokevirtual 125, 3) := by decide +kernel
theorem dX6_drive_5 : decode cX6_drive 5 = .ok (.aload_n 0, 1) := by decide +kernel
theorem dX6_drive_6 : decode cX6_drive 6 = .ok (.iload_n 2, 1) := by decide +kernel
theorem dX6_drive_7 : decode cX6_drive 7 = .ok (.invokevirtual 59, 3) := by decide +kernel
theorem dX6_drive_10 : decode cX6_drive 10 = .ok (.astore 5, 2) := by decide +kernel
theorem dX6_drive_12 : decode cX6_drive 12 = .ok (.aload_n 0, 1) := by decide +kernel
theorem dX6_drive_13 : decode cX6_drive 13 = .ok (.iload_n 3, 1) := by decide +kernel
theorem dX6_drive_14 : decode cX6_drive 14 = .ok (.invokevirtual 129, 3) := by decide +kernel
theorem dX6_drive_17 : decode cX6_drive 17 = .ok (.astore 6, 2) := by decide +kernel
theorem dX6_drive_19 : decode cX6_drive 19 = .ok (.iload 4, 2) := by decide +kernel
theorem dX6_drive_21 : decode cX6_drive 21 = .ok (.iconst (-1), 1) := by decide +kernel
theorem dX6_drive_22 : decode cX6_drive 22 = .ok (.if_icmp .eq 26, 3) := by decide +kernel
theorem dX6_drive_25 : decode cX6_drive 25 = .ok (.aload_n 0, 1) := by decide +kernel
theorem dX6_drive_26 : decode cX6_drive 26 = .ok (.getfield 35, 3) := by decide +kernel
theorem dX6_drive_29 : decode cX6_drive 29 = .ok (.iload 4, 2) := by decide +kernel
theorem dX6_drive_31 : decode cX6_drive 31 = .ok (.iload_n 2, 1) := by decide +kernel
theorem dX6_drive_32 : decode cX6_drive 32 = .ok (.invokevirtual 133, 3) := by decide +kernel
theorem dX6_drive_35 : decode cX6_drive 35 = .ok (.ifCond .ne 13, 3) := by decide +kernel
theorem dX6_drive_38 : decode cX6_drive 38 = .ok (.new 109, 3) := by decide +kernel
theorem dX6_drive_41 : decode cX6_drive 41 = .ok (.dup, 1) := by decide +kernel
theorem dX6_drive_42 : decode cX6_drive 42 = .ok (.ldc 137, 2) := by decide +kernel
theorem dX6_drive_44 : decode cX6_drive 44 = .ok (.invokespecial 113, 3) := by decide +kernel
theorem dX6_drive_47 : decode cX6_drive 47 = .ok (.athrow, 1) := by decide +kernel
theorem dX6_drive_48 : decode cX6_drive 48 = .ok (.aload_n 0, 1) := by decide +kernel
theorem dX6_drive_49 : decode cX6_drive 49 = .ok (.aload 5, 2) := by decide +kernel
theorem dX6_drive_51 : decode cX6_drive 51 = .ok (.aload 6, 2) := by decide +kernel
theorem dX6_drive_53 : decode cX6_drive 53 = .ok (.invokevirtual 139, 3) := by decide +kernel
theorem dX6_drive_56 : decode cX6_drive 56 = .ok (.aload_n 0, 1) := by decide +kernel
theorem dX6_drive_57 : decode cX6_drive 57 = .ok (.getfield 35, 3) := by decide +kernel
theorem dX6_drive_60 : decode cX6_drive 60 = .ok (.getfield 143, 3) := by decide +kernel
theorem dX6_drive_63 : decode cX6_drive 63 = .ok (.bipush 30, 2) := by decide +kernel
theorem dX6_drive_65 : decode cX6_drive 65 = .ok (.if_icmp .lt 13, 3) := by decide +kernel
theorem dX6_drive_68 : decode cX6_drive 68 = .ok (.new 52, 3) := by decide +kernel
theorem dX6_drive_71 : decode cX6_drive 71 = .ok (.dup, 1) := by decide +kernel
theorem dX6_drive_72 : decode cX6_drive 72 = .ok (.ldc 146, 2) := by decide +kernel
theorem dX6_drive_74 : decode cX6_drive 74 = .ok (.invokespecial 56, 3) := by decide +kernel
theorem dX6_drive_77 : decode cX6_drive 77 = .ok (.athrow, 1) := by decide +kernel
theorem dX6_drive_78 : decode cX6_drive 78 = .ok (.aload_n 0, 1) := by decide +kernel
theorem dX6_drive_79 : decode cX6_drive 79 = .ok (.getfield 35, 3) := by decide +kernel
theorem dX6_drive_82 : decode cX6_drive 82 = .ok (.getfield 148, 3) := by decide +kernel
theorem dX6_drive_85 : decode cX6_drive 85 = .ok (.aload_n 0, 1) := by decide +kernel
theorem dX6_drive_86 : decode cX6_drive 86 = .ok (.getfield 35, 3) := by decide +kernel
theorem dX6_drive_89 : decode cX6_drive 89 = .ok (.getfield 143, 3) := by decide +kernel
theorem dX6_drive_92 : decode cX6_drive 92 = .ok (.aaload, 1) := by decide +kernel
theorem dX6_drive_93 : decode cX6_drive 93 = .ok (.astore 7, 2) := by decide +kernel
theorem dX6_drive_95 : decode cX6_drive 95 = .ok (.aload 7, 2) := by decide +kernel
theorem dX6_drive_97 : decode cX6_drive 97 = .ok (.iload_n 1, 1) := by decide +kernel
theorem dX6_drive_98 : decode cX6_drive 98 = .ok (.putfield 152, 3) := by decide +kernel
theorem dX6_drive_101 : decode cX6_drive 101 = .ok (.aload 7, 2) := by decide +kernel
theorem dX6_drive_103 : decode cX6_drive 103 = .ok (.iload_n 2, 1) := by decide +kernel
theorem dX6_drive_104 : decode cX6_drive 104 = .ok (.putfield 157, 3) := by decide +kernel
theorem dX6_drive_107 : decode cX6_drive 107 = .ok (.aload 7, 2) := by decide +kernel
theorem dX6_drive_109 : decode cX6_drive 109 = .ok (.iload_n 3, 1) := by decide +kernel
theorem dX6_drive_110 : decode cX6_drive 110 = .ok (.putfield 160, 3) := by decide +kernel
theorem dX6_drive_113 : decode cX6_drive 113 = .ok (.aload 7, 2) := by decide +kernel
theorem dX6_drive_115 : decode cX6_drive 115 = .ok (.iload 4, 2) := by decide +kernel
theorem dX6_drive_117 : decode cX6_drive 117 = .ok (.putfield 163, 3) := by decide +kernel
theorem dX6_drive_120 : decode cX6_drive 120 = .ok (.aload 7, 2) := by decide +kernel
theorem dX6_drive_122 : decode cX6_drive 122 = .ok (.aload_n 0, 1) := by decide +kernel
theorem dX6_drive_123 : decode cX6_drive 123 = .ok (.getfield 42, 3) := by decide +kernel
theorem dX6_drive_126 : decode cX6_drive 126 = .ok (.iload_n 2, 1) := by decide +kernel
theorem dX6_drive_127 : decode cX6_drive 127 = .ok (.invokevirtual 166, 3) := by decide +kernel
theorem dX6_drive_130 : decode cX6_drive 130 = .ok (.putfield 169, 3) := by decide +kernel
theorem dX6_drive_133 : decode cX6_drive 133 = .ok (.aload 7, 2) := by decide +kernel
theorem dX6_drive_135 : decode cX6_drive 135 = .ok (.aload_n 0, 1) := by decide +kernel
theorem dX6_drive_136 : decode cX6_drive 136 = .ok (.getfield 28, 3) := by decide +kernel
theorem dX6_drive_139 : decode cX6_drive 139 = .ok (.aload_n 0, 1) := by decide +kernel
theorem dX6_drive_140 : decode cX6_drive 140 = .ok (.getfield 21, 3) := by decide +kernel
theorem dX6_drive_143 : decode cX6_drive 143 = .ok (.invokevirtual 172, 3) := by decide +kernel
theorem dX6_drive_146 : decode cX6_drive 146 = .ok (.aload_n 0, 1) := by decide +kernel
theorem dX6_drive_147 : decode cX6_drive 147 = .ok (.getfield 35, 3) := by decide +kernel
theorem dX6_drive_150 : decode cX6_drive 150 = .ok (.aload 7, 2) := by decide +kernel
theorem dX6_drive_152 : decode cX6_drive 152 = .ok (.invokevirtual 176, 3) := by decide +kernel
theorem dX6_drive_155 : decode cX6_drive 155 = .ok (.aload 5, 2) := by decide +kernel
theorem dX6_drive_157 : decode cX6_drive 157 = .ok (.iconst 1, 1) := by decide +kernel
theorem dX6_drive_158 : decode cX6_drive 158 = .ok (.putfield 72, 3) := by decide +kernel
theorem dX6_drive_161 : decode cX6_drive 161 = .ok (.aload_n 0, 1) := by decide +kernel
theorem dX6_drive_162 : decode cX6_drive 162 = .ok (.iconst 0, 1) := by decide +kernel
theorem dX6_drive_163 : decode cX6_drive 163 = .ok (.putfield 120, 3) := by decide +kernel
theorem dX6_drive_166 : decode cX6_drive 166 = .ok (.aload_n 0, 1) := by decide +kernel
theorem dX6_drive_167 : decode cX6_drive 167 = .ok (.getfield 35, 3) := by decide +kernel
theorem dX6_drive_170 : decode cX6_drive 170 = .ok (.getfield 143, 3) := by decide +kernel
theorem dX6_drive_173 : decode cX6_drive 173 = .ok (.iconst 1, 1) := by decide +kernel
theorem dX6_drive_174 : decode cX6_drive 174 = .ok (.isub, 1) := by decide +kernel
theorem dX6_drive_175 : decode cX6_drive 175 = .ok (.ireturn, 1) := by decide +kernel
theorem dX6_tryOut_0 : decode cX6_tryOut 0 = .ok (.aload_n 0, 1) := by decide +kernel
theorem dX6_tryOut_1 : decode cX6_tryOut 1 = .ok (.aload_n 0, 1) := by decide +kernel
theorem dX6_tryOut_2 : decode cX6_tryOut 2 = .ok (.iload_n 1, 1) := by decide +kernel
theorem dX6_tryOut_3 : decode cX6_tryOut 3 = .ok (.invokevirtual 59, 3) := by decide +kernel
theorem dX6_tryOut_6 : decode cX6_tryOut 6 = .ok (.aload_n 0, 1) := by decide +kernel
theorem dX6_tryOut_7 : decode cX6_tryOut 7 = .ok (.iload_n 2, 1) := by decide +kernel
theorem dX6_tryOut_8 : decode cX6_tryOut 8 = .ok (.invokevirtual 129, 3) := by decide +kernel
theorem dX6_tryOut_11 : decode cX6_tryOut 11 = .ok (.invokevirtual 139, 3) := by decide +kernel
theorem dX6_tryOut_14 : decode cX6_tryOut 14 = .ok (.aload_n 0, 1) := by decide +kernel
theorem dX6_tryOut_15 : decode cX6_tryOut 15 = .ok (.getfield 28, 3) := by decide +kernel
theorem dX6_tryOut_18 : decode cX6_tryOut 18 = .ok (.getfield 180, 3) := by decide +kernel
theorem dX6_tryOut_21 : decode cX6_tryOut 21 = .ok (.ireturn, 1) := by decide +kernel
theorem dX6_rideTyped_0 : decode cX6_rideTyped 0 = .ok (.aload_n 1, 1) := by decide +kernel
theorem dX6_rideTyped_1 : decode cX6_rideTyped 1 = .ok (.getfield 81, 3) := by decide +kernel
theorem dX6_rideTyped_4 : decode cX6_rideTyped 4 = .ok (.ifCond .ne 13, 3) := by decide +kernel
theorem dX6_rideTyped_7 : decode cX6_rideTyped 7 = .ok (.new 76, 3) := by decide +kernel
theorem dX6_rideTyped_10 : decode cX6_rideTyped 10 = .ok (.dup, 1) := by decide +kernel
theorem dX6_rideTyped_11 : decode cX6_rideTyped 11 = .ok (.ldc 183, 2) := by decide +kernel
theorem dX6_rideTyped_13 : decode cX6_rideTyped 13 = .ok (.invokespecial 80, 3) := by decide +kernel
theorem dX6_rideTyped_16 : decode cX6_rideTyped 16 = .ok (.athrow, 1) := by decide +kernel
theorem dX6_rideTyped_17 : decode cX6_rideTyped 17 = .ok (.aload_n 0, 1) := by decide +kernel
theorem dX6_rideTyped_18 : decode cX6_rideTyped 18 = .ok (.getfield 28, 3) := by decide +kernel
theorem dX6_rideTyped_21 : decode cX6_rideTyped 21 = .ok (.aload_n 0, 1) := by decide +kernel
theorem dX6_rideTyped_22 : decode cX6_rideTyped 22 = .ok (.getfield 21, 3) := by decide +kernel
theorem dX6_rideTyped_25 : decode cX6_rideTyped 25 = .ok (.aload_n 0, 1) := by decide +kernel
theorem dX6_rideTyped_26 : decode cX6_rideTyped 26 = .ok (.getfield 120, 3) := by decide +kernel
theorem dX6_rideTyped_29 : decode cX6_rideTyped 29 = .ok (.aload_n 1, 1) := by decide +kernel
theorem dX6_rideTyped_30 : decode cX6_rideTyped 30 = .ok (.aload_n 2, 1) := by decide +kernel
theorem dX6_rideTyped_31 : decode cX6_rideTyped 31 = .ok (.invokevirtual 185, 3) := by decide +kernel
theorem dX6_rideTyped_34 : decode cX6_rideTyped 34 = .ok (.aload_n 0, 1) := by decide +kernel
theorem dX6_rideTyped_35 : decode cX6_rideTyped 35 = .ok (.getfield 28, 3) := by decide +kernel
theorem dX6_rideTyped_38 : decode cX6_rideTyped 38 = .ok (.getfield 189, 3) := by decide +kernel
theorem dX6_rideTyped_41 : decode cX6_rideTyped 41 = .ok (.ifCond .ne 13, 3) := by decide +kernel
theorem dX6_rideTyped_44 : decode cX6_rideTyped 44 = .ok (.new 76, 3) := by decide +kernel
theorem dX6_rideTyped_47 : decode cX6_rideTyped 47 = .ok (.dup, 1) := by decide +kernel
theorem dX6_rideTyped_48 : decode cX6_rideTyped 48 = .ok (.ldc 192, 2) := by decide +kernel
theorem dX6_rideTyped_50 : decode cX6_rideTyped 50 = .ok (.invokespecial 80, 3) := by decide +kernel
theorem dX6_rideTyped_53 : decode cX6_rideTyped 53 = .ok (.athrow, 1) := by decide +kernel
theorem dX6_rideTyped_54 : decode cX6_rideTyped 54 = .ok (.return_, 1) := by decide +kernel
theorem dX6_laps_0 : decode cX6_laps 0 = .ok (.aload_n 0, 1) := by decide +kernel
theorem dX6_laps_1 : decode cX6_laps 1 = .ok (.getfield 35, 3) := by decide +kernel
theorem dX6_laps_4 : decode cX6_laps 4 = .ok (.getfield 143, 3) := by decide +kernel
theorem dX6_laps_7 : decode cX6_laps 7 = .ok (.ireturn, 1) := by decide +kernel
theorem dX6_time_0 : decode cX6_time 0 = .ok (.aload_n 0, 1) := by decide +kernel
theorem dX6_time_1 : decode cX6_time 1 = .ok (.iload_n 1, 1) := by decide +kernel
theorem dX6_time_2 : decode cX6_time 2 = .ok (.invokevirtual 194, 3) := by decide +kernel
theorem dX6_time_5 : decode cX6_time 5 = .ok (.astore_n 3, 1) := by decide +kernel
theorem dX6_time_6 : decode cX6_time 6 = .ok (.iload_n 2, 1) := by decide +kernel
theorem dX6_time_7 : decode cX6_time 7 = .ok (.ifCond .eq 10, 3) := by decide +kernel
theorem dX6_time_10 : decode cX6_time 10 = .ok (.aload_n 3, 1) := by decide +kernel
theorem dX6_time_11 : decode cX6_time 11 = .ok (.invokevirtual 198, 3) := by decide +kernel
theorem dX6_time_14 : decode cX6_time 14 = .ok (.goto 7, 3) := by decide +kernel
theorem dX6_time_17 : decode cX6_time 17 = .ok (.aload_n 3, 1) := by decide +kernel
theorem dX6_time_18 : decode cX6_time 18 = .ok (.getfield 202, 3) := by decide +kernel
theorem dX6_time_21 : decode cX6_time 21 = .ok (.ireturn, 1) := by decide +kernel
theorem dX6_ticks_0 : decode cX6_ticks 0 = .ok (.aload_n 0, 1) := by decide +kernel
theorem dX6_ticks_1 : decode cX6_ticks 1 = .ok (.iload_n 1, 1) := by decide +kernel
theorem dX6_ticks_2 : decode cX6_ticks 2 = .ok (.invokevirtual 194, 3) := by decide +kernel
theorem dX6_ticks_5 : decode cX6_ticks 5 = .ok (.getfield 203, 3) := by decide +kernel
theorem dX6_ticks_8 : decode cX6_ticks 8 = .ok (.ireturn, 1) := by decide +kernel
theorem dX6_inputAt_0 : decode cX6_inputAt 0 = .ok (.aload_n 0, 1) := by decide +kernel
theorem dX6_inputAt_1 : decode cX6_inputAt 1 = .ok (.iload_n 1, 1) := by decide +kernel
theorem dX6_inputAt_2 : decode cX6_inputAt 2 = .ok (.invokevirtual 194, 3) := by decide +kernel
theorem dX6_inputAt_5 : decode cX6_inputAt 5 = .ok (.astore_n 3, 1) := by decide +kernel
theorem dX6_inputAt_6 : decode cX6_inputAt 6 = .ok (.iload_n 2, 1) := by decide +kernel
theorem dX6_inputAt_7 : decode cX6_inputAt 7 = .ok (.ifCond .lt 11, 3) := by decide +kernel
theorem dX6_inputAt_10 : decode cX6_inputAt 10 = .ok (.iload_n 2, 1) := by decide +kernel
theorem dX6_inputAt_11 : decode cX6_inputAt 11 = .ok (.aload_n 3, 1) := by decide +kernel
theorem dX6_inputAt_12 : decode cX6_inputAt 12 = .ok (.getfield 203, 3) := by decide +kernel
theorem dX6_inputAt_15 : decode cX6_inputAt 15 = .ok (.if_icmp .lt 13, 3) := by decide +kernel
theorem dX6_inputAt_18 : decode cX6_inputAt 18 = .ok (.new 109, 3) := by decide +kernel
theorem dX6_inputAt_21 : decode cX6_inputAt 21 = .ok (.dup, 1) := by decide +kernel
theorem dX6_inputAt_22 : decode cX6_inputAt 22 = .ok (.ldc 206, 2) := by decide +kernel
theorem dX6_inputAt_24 : decode cX6_inputAt 24 = .ok (.invokespecial 113, 3) := by decide +kernel
theorem dX6_inputAt_27 : decode cX6_inputAt 27 = .ok (.athrow, 1) := by decide +kernel
theorem dX6_inputAt_28 : decode cX6_inputAt 28 = .ok (.aload_n 3, 1) := by decide +kernel
theorem dX6_inputAt_29 : decode cX6_inputAt 29 = .ok (.getfield 208, 3) := by decide +kernel
theorem dX6_inputAt_32 : decode cX6_inputAt 32 = .ok (.iload_n 2, 1) := by decide +kernel
theorem dX6_inputAt_33 : decode cX6_inputAt 33 = .ok (.caload, 1) := by decide +kernel
theorem dX6_inputAt_34 : decode cX6_inputAt 34 = .ok (.ireturn, 1) := by decide +kernel
theorem dX6_replay_0 : decode cX6_replay 0 = .ok (.aload_n 0, 1) := by decide +kernel
theorem dX6_replay_1 : decode cX6_replay 1 = .ok (.iload_n 1, 1) := by decide +kernel
theorem dX6_replay_2 : decode cX6_replay 2 = .ok (.invokevirtual 194, 3) := by decide +kernel
theorem dX6_replay_5 : decode cX6_replay 5 = .ok (.astore 4, 2) := by decide +kernel
theorem dX6_replay_7 : decode cX6_replay 7 = .ok (.iload_n 2, 1) := by decide +kernel
theorem dX6_replay_8 : decode cX6_replay 8 = .ok (.ifCond .lt 12, 3) := by decide +kernel
theorem dX6_replay_11 : decode cX6_replay 11 = .ok (.iload_n 2, 1) := by decide +kernel
theorem dX6_replay_12 : decode cX6_replay 12 = .ok (.aload 4, 2) := by decide +kernel
theorem dX6_replay_14 : decode cX6_replay 14 = .ok (.getfield 203, 3) := by decide +kernel
theorem dX6_replay_17 : decode cX6_replay 17 = .ok (.if_icmp .le 13, 3) := by decide +kernel
theorem dX6_replay_20 : decode cX6_replay 20 = .ok (.new 109, 3) := by decide +kernel
theorem dX6_replay_23 : decode cX6_replay 23 = .ok (.dup, 1) := by decide +kernel
theorem dX6_replay_24 : decode cX6_replay 24 = .ok (.ldc 211, 2) := by decide +kernel
theorem dX6_replay_26 : decode cX6_replay 26 = .ok (.invokespecial 113, 3) := by decide +kernel
theorem dX6_replay_29 : decode cX6_replay 29 = .ok (.athrow, 1) := by decide +kernel
theorem dX6_replay_30 : decode cX6_replay 30 = .ok (.aload_n 0, 1) := by decide +kernel
theorem dX6_replay_31 : decode cX6_replay 31 = .ok (.aload 4, 2) := by decide +kernel
theorem dX6_replay_33 : decode cX6_replay 33 = .ok (.iload_n 2, 1) := by decide +kernel
theorem dX6_replay_34 : decode cX6_replay 34 = .ok (.invokevirtual 213, 3) := by decide +kernel
theorem dX6_replay_37 : decode cX6_replay 37 = .ok (.iload_n 3, 1) := by decide +kernel
theorem dX6_replay_38 : decode cX6_replay 38 = .ok (.ifCond .eq 13, 3) := by decide +kernel
theorem dX6_replay_41 : decode cX6_replay 41 = .ok (.aload_n 0, 1) := by decide +kernel
theorem dX6_replay_42 : decode cX6_replay 42 = .ok (.getfield 28, 3) := by decide +kernel
theorem dX6_replay_45 : decode cX6_replay 45 = .ok (.getfield 217, 3) := by decide +kernel
theorem dX6_replay_48 : decode cX6_replay 48 = .ok (.goto 10, 3) := by decide +kernel
theorem dX6_replay_51 : decode cX6_replay 51 = .ok (.aload_n 0, 1) := by decide +kernel
theorem dX6_replay_52 : decode cX6_replay 52 = .ok (.getfield 28, 3) := by decide +kernel
theorem dX6_replay_55 : decode cX6_replay 55 = .ok (.getfield 220, 3) := by decide +kernel
theorem dX6_replay_58 : decode cX6_replay 58 = .ok (.ireturn, 1) := by decide +kernel
theorem dX6_of_0 : decode cX6_of 0 = .ok (.aload_n 0, 1) := by decide +kernel
theorem dX6_of_1 : decode cX6_of 1 = .ok (.iload_n 1, 1) := by decide +kernel
theorem dX6_of_2 : decode cX6_of 2 = .ok (.invokevirtual 194, 3) := by decide +kernel
theorem dX6_of_5 : decode cX6_of 5 = .ok (.astore_n 3, 1) := by decide +kernel
theorem dX6_of_6 : decode cX6_of 6 = .ok (.iload_n 2, 1) := by decide +kernel
theorem dX6_of_7 : decode cX6_of 7 = .ok (.lookupswitch 74 #[(99, 59), (100, 49), (103, 64), (114, 69), (116, 54)], 49) := by decide +kernel
theorem dX6_of_56 : decode cX6_of 56 = .ok (.aload_n 3, 1) := by decide +kernel
theorem dX6_of_57 : decode cX6_of 57 = .ok (.getfield 152, 3) := by decide +kernel
theorem dX6_of_60 : decode cX6_of 60 = .ok (.ireturn, 1) := by decide +kernel
theorem dX6_of_61 : decode cX6_of 61 = .ok (.aload_n 3, 1) := by decide +kernel
theorem dX6_of_62 : decode cX6_of 62 = .ok (.getfield 157, 3) := by decide +kernel
theorem dX6_of_65 : decode cX6_of 65 = .ok (.ireturn, 1) := by decide +kernel
theorem dX6_of_66 : decode cX6_of 66 = .ok (.aload_n 3, 1) := by decide +kernel
theorem dX6_of_67 : decode cX6_of 67 = .ok (.getfield 160, 3) := by decide +kernel
theorem dX6_of_70 : decode cX6_of 70 = .ok (.ireturn, 1) := by decide +kernel
theorem dX6_of_71 : decode cX6_of 71 = .ok (.aload_n 3, 1) := by decide +kernel
theorem dX6_of_72 : decode cX6_of 72 = .ok (.getfield 163, 3) := by decide +kernel
theorem dX6_of_75 : decode cX6_of 75 = .ok (.ireturn, 1) := by decide +kernel
theorem dX6_of_76 : decode cX6_of 76 = .ok (.aload_n 3, 1) := by decide +kernel
theorem dX6_of_77 : decode cX6_of 77 = .ok (.getfield 169, 3) := by decide +kernel
theorem dX6_of_80 : decode cX6_of 80 = .ok (.ireturn, 1) := by decide +kernel
theorem dX6_of_81 : decode cX6_of 81 = .ok (.new 67, 3) := by decide +kernel
theorem dX6_of_84 : decode cX6_of 84 = .ok (.dup, 1) := by decide +kernel
theorem dX6_of_85 : decode cX6_of 85 = .ok (.ldc 223, 2) := by decide +kernel
theorem dX6_of_87 : decode cX6_of 87 = .ok (.invokespecial 71, 3) := by decide +kernel
theorem dX6_of_90 : decode cX6_of 90 = .ok (.athrow, 1) := by decide +kernel
theorem dX6_beats_0 : decode cX6_beats 0 = .ok (.aload_n 0, 1) := by decide +kernel
theorem dX6_beats_1 : decode cX6_beats 1 = .ok (.iload_n 1, 1) := by decide +kernel
theorem dX6_beats_2 : decode cX6_beats 2 = .ok (.invokevirtual 194, 3) := by decide +kernel
theorem dX6_beats_5 : decode cX6_beats 5 = .ok (.astore_n 2, 1) := by decide +kernel
theorem dX6_beats_6 : decode cX6_beats 6 = .ok (.aload_n 0, 1) := by decide +kernel
theorem dX6_beats_7 : decode cX6_beats 7 = .ok (.getfield 35, 3) := by decide +kernel
theorem dX6_beats_10 : decode cX6_beats 10 = .ok (.aload_n 2, 1) := by decide +kernel
theorem dX6_beats_11 : decode cX6_beats 11 = .ok (.getfield 163, 3) := by decide +kernel
theorem dX6_beats_14 : decode cX6_beats 14 = .ok (.invokevirtual 225, 3) := by decide +kernel
theorem dX6_beats_17 : decode cX6_beats 17 = .ok (.ifCond .ne 13, 3) := by decide +kernel
theorem dX6_beats_20 : decode cX6_beats 20 = .ok (.new 109, 3) := by decide +kernel
theorem dX6_beats_23 : decode cX6_beats 23 = .ok (.dup, 1) := by decide +kernel
theorem dX6_beats_24 : decode cX6_beats 24 = .ok (.ldc 229, 2) := by decide +kernel
theorem dX6_beats_26 : decode cX6_beats 26 = .ok (.invokespecial 113, 3) := by decide +kernel
theorem dX6_beats_29 : decode cX6_beats 29 = .ok (.athrow, 1) := by decide +kernel
theorem dX6_beats_30 : decode cX6_beats 30 = .ok (.aload_n 2, 1) := by decide +kernel
theorem dX6_beats_31 : decode cX6_beats 31 = .ok (.invokevirtual 198, 3) := by decide +kernel
theorem dX6_beats_34 : decode cX6_beats 34 = .ok (.aload_n 0, 1) := by decide +kernel
theorem dX6_beats_35 : decode cX6_beats 35 = .ok (.getfield 35, 3) := by decide +kernel
theorem dX6_beats_38 : decode cX6_beats 38 = .ok (.getfield 148, 3) := by decide +kernel
theorem dX6_beats_41 : decode cX6_beats 41 = .ok (.aload_n 2, 1) := by decide +kernel
theorem dX6_beats_42 : decode cX6_beats 42 = .ok (.getfield 163, 3) := by decide +kernel
theorem dX6_beats_45 : decode cX6_beats 45 = .ok (.aaload, 1) := by decide +kernel
theorem dX6_beats_46 : decode cX6_beats 46 = .ok (.invokevirtual 198, 3) := by decide +kernel
theorem dX6_beats_49 : decode cX6_beats 49 = .ok (.if_icmp .ge 7, 3) := by decide +kernel
theorem dX6_beats_52 : decode cX6_beats 52 = .ok (.iconst 1, 1) := by decide +kernel
theorem dX6_beats_53 : decode cX6_beats 53 = .ok (.goto 4, 3) := by decide +kernel
theorem dX6_beats_56 : decode cX6_beats 56 = .ok (.iconst 0, 1) := by decide +kernel
theorem dX6_beats_57 : decode cX6_beats 57 = .ok (.ireturn, 1) := by decide +kernel
theorem dX6_least_0 : decode cX6_least 0 = .ok (.aload_n 0, 1) := by decide +kernel
theorem dX6_least_1 : decode cX6_least 1 = .ok (.iload_n 1, 1) := by decide +kernel
theorem dX6_least_2 : decode cX6_least 2 = .ok (.invokevirtual 59, 3) := by decide +kernel
theorem dX6_least_5 : decode cX6_least 5 = .ok (.pop, 1) := by decide +kernel
theorem dX6_least_6 : decode cX6_least 6 = .ok (.aload_n 0, 1) := by decide +kernel
theorem dX6_least_7 : decode cX6_least 7 = .ok (.getfield 35, 3) := by decide +kernel
theorem dX6_least_10 : decode cX6_least 10 = .ok (.iload_n 1, 1) := by decide +kernel
theorem dX6_least_11 : decode cX6_least 11 = .ok (.invokevirtual 231, 3) := by decide +kernel
theorem dX6_least_14 : decode cX6_least 14 = .ok (.istore_n 2, 1) := by decide +kernel
theorem dX6_least_15 : decode cX6_least 15 = .ok (.iload_n 2, 1) := by decide +kernel
theorem dX6_least_16 : decode cX6_least 16 = .ok (.iconst (-1), 1) := by decide +kernel
theorem dX6_least_17 : decode cX6_least 17 = .ok (.if_icmp .ne 13, 3) := by decide +kernel
theorem dX6_least_20 : decode cX6_least 20 = .ok (.new 109, 3) := by decide +kernel
theorem dX6_least_23 : decode cX6_least 23 = .ok (.dup, 1) := by decide +kernel
theorem dX6_least_24 : decode cX6_least 24 = .ok (.ldc 234, 2) := by decide +kernel
theorem dX6_least_26 : decode cX6_least 26 = .ok (.invokespecial 113, 3) := by decide +kernel
theorem dX6_least_29 : decode cX6_least 29 = .ok (.athrow, 1) := by decide +kernel
theorem dX6_least_30 : decode cX6_least 30 = .ok (.iload_n 2, 1) := by decide +kernel
theorem dX6_least_31 : decode cX6_least 31 = .ok (.ireturn, 1) := by decide +kernel
theorem dX6_base_0 : decode cX6_base 0 = .ok (.aload_n 0, 1) := by decide +kernel
theorem dX6_base_1 : decode cX6_base 1 = .ok (.iload_n 1, 1) := by decide +kernel
theorem dX6_base_2 : decode cX6_base 2 = .ok (.invokevirtual 194, 3) := by decide +kernel
theorem dX6_base_5 : decode cX6_base 5 = .ok (.astore_n 2, 1) := by decide +kernel
theorem dX6_base_6 : decode cX6_base 6 = .ok (.aload_n 2, 1) := by decide +kernel
theorem dX6_base_7 : decode cX6_base 7 = .ok (.getfield 236, 3) := by decide +kernel
theorem dX6_base_10 : decode cX6_base 10 = .ok (.iconst (-1), 1) := by decide +kernel
theorem dX6_base_11 : decode cX6_base 11 = .ok (.if_icmp .ne 13, 3) := by decide +kernel
theorem dX6_base_14 : decode cX6_base 14 = .ok (.new 109, 3) := by decide +kernel
theorem dX6_base_17 : decode cX6_base 17 = .ok (.dup, 1) := by decide +kernel
theorem dX6_base_18 : decode cX6_base 18 = .ok (.ldc 239, 2) := by decide +kernel
theorem dX6_base_20 : decode cX6_base 20 = .ok (.invokespecial 113, 3) := by decide +kernel
theorem dX6_base_23 : decode cX6_base 23 = .ok (.athrow, 1) := by decide +kernel
theorem dX6_base_24 : decode cX6_base 24 = .ok (.aload_n 2, 1) := by decide +kernel
theorem dX6_base_25 : decode cX6_base 25 = .ok (.getfield 236, 3) := by decide +kernel
theorem dX6_base_28 : decode cX6_base 28 = .ok (.ireturn, 1) := by decide +kernel
theorem dX6_depth_0 : decode cX6_depth 0 = .ok (.aload_n 0, 1) := by decide +kernel
theorem dX6_depth_1 : decode cX6_depth 1 = .ok (.iload_n 1, 1) := by decide +kernel
theorem dX6_depth_2 : decode cX6_depth 2 = .ok (.invokevirtual 194, 3) := by decide +kernel
theorem dX6_depth_5 : decode cX6_depth 5 = .ok (.getfield 241, 3) := by decide +kernel
theorem dX6_depth_8 : decode cX6_depth 8 = .ok (.ireturn, 1) := by decide +kernel
theorem dX6_parts_0 : decode cX6_parts 0 = .ok (.aload_n 0, 1) := by decide +kernel
theorem dX6_parts_1 : decode cX6_parts 1 = .ok (.iload_n 1, 1) := by decide +kernel
theorem dX6_parts_2 : decode cX6_parts 2 = .ok (.invokevirtual 194, 3) := by decide +kernel
theorem dX6_parts_5 : decode cX6_parts 5 = .ok (.getfield 244, 3) := by decide +kernel
theorem dX6_parts_8 : decode cX6_parts 8 = .ok (.ireturn, 1) := by decide +kernel
theorem dX6_stored_0 : decode cX6_stored 0 = .ok (.iconst 0, 1) := by decide +kernel
theorem dX6_stored_1 : decode cX6_stored 1 = .ok (.istore_n 1, 1) := by decide +kernel
theorem dX6_stored_2 : decode cX6_stored 2 = .ok (.iconst 0, 1) := by decide +kernel
theorem dX6_stored_3 : decode cX6_stored 3 = .ok (.istore_n 2, 1) := by decide +kernel
theorem dX6_stored_4 : decode cX6_stored 4 = .ok (.iload_n 2, 1) := by decide +kernel
theorem dX6_stored_5 : decode cX6_stored 5 = .ok (.aload_n 0, 1) := by decide +kernel
theorem dX6_stored_6 : decode cX6_stored 6 = .ok (.getfield 35, 3) := by decide +kernel
theorem dX6_stored_9 : decode cX6_stored 9 = .ok (.getfield 143, 3) := by decide +kernel
theorem dX6_stored_12 : decode cX6_stored 12 = .ok (.if_icmp .ge 24, 3) := by decide +kernel
theorem dX6_stored_15 : decode cX6_stored 15 = .ok (.iload_n 1, 1) := by decide +kernel
theorem dX6_stored_16 : decode cX6_stored 16 = .ok (.aload_n 0, 1) := by decide +kernel
theorem dX6_stored_17 : decode cX6_stored 17 = .ok (.getfield 35, 3) := by decide +kernel
theorem dX6_stored_20 : decode cX6_stored 20 = .ok (.getfield 148, 3) := by decide +kernel
theorem dX6_stored_23 : decode cX6_stored 23 = .ok (.iload_n 2, 1) := by decide +kernel
theorem dX6_stored_24 : decode cX6_stored 24 = .ok (.aaload, 1) := by decide +kernel
theorem dX6_stored_25 : decode cX6_stored 25 = .ok (.getfield 244, 3) := by decide +kernel
theorem dX6_stored_28 : decode cX6_stored 28 = .ok (.iadd, 1) := by decide +kernel
theorem dX6_stored_29 : decode cX6_stored 29 = .ok (.istore_n 1, 1) := by decide +kernel
theorem dX6_stored_30 : decode cX6_stored 30 = .ok (.iinc 2 1, 3) := by decide +kernel
theorem dX6_stored_33 : decode cX6_stored 33 = .ok (.goto (-29), 3) := by decide +kernel
theorem dX6_stored_36 : decode cX6_stored 36 = .ok (.iload_n 1, 1) := by decide +kernel
theorem dX6_stored_37 : decode cX6_stored 37 = .ok (.ireturn, 1) := by decide +kernel
theorem dX6_resting_0 : decode cX6_resting 0 = .ok (.aload_n 0, 1) := by decide +kernel
theorem dX6_resting_1 : decode cX6_resting 1 = .ok (.iload_n 1, 1) := by decide +kernel
theorem dX6_resting_2 : decode cX6_resting 2 = .ok (.invokevirtual 194, 3) := by decide +kernel
theorem dX6_resting_5 : decode cX6_resting 5 = .ok (.pop, 1) := by decide +kernel
theorem dX6_resting_6 : decode cX6_resting 6 = .ok (.aload_n 0, 1) := by decide +kernel
theorem dX6_resting_7 : decode cX6_resting 7 = .ok (.getfield 35, 3) := by decide +kernel
theorem dX6_resting_10 : decode cX6_resting 10 = .ok (.iload_n 1, 1) := by decide +kernel
theorem dX6_resting_11 : decode cX6_resting 11 = .ok (.invokevirtual 247, 3) := by decide +kernel
theorem dX6_resting_14 : decode cX6_resting 14 = .ok (.ireturn, 1) := by decide +kernel
theorem dX6_strike_0 : decode cX6_strike 0 = .ok (.aload_n 0, 1) := by decide +kernel
theorem dX6_strike_1 : decode cX6_strike 1 = .ok (.iload_n 1, 1) := by decide +kernel
theorem dX6_strike_2 : decode cX6_strike 2 = .ok (.invokevirtual 194, 3) := by decide +kernel
theorem dX6_strike_5 : decode cX6_strike 5 = .ok (.astore_n 2, 1) := by decide +kernel
theorem dX6_strike_6 : decode cX6_strike 6 = .ok (.aload_n 2, 1) := by decide +kernel
theorem dX6_strike_7 : decode cX6_strike 7 = .ok (.getfield 250, 3) := by decide +kernel
theorem dX6_strike_10 : decode cX6_strike 10 = .ok (.ifCond .ne 13, 3) := by decide +kernel
theorem dX6_strike_13 : decode cX6_strike 13 = .ok (.new 76, 3) := by decide +kernel
theorem dX6_strike_16 : decode cX6_strike 16 = .ok (.dup, 1) := by decide +kernel
theorem dX6_strike_17 : decode cX6_strike 17 = .ok (.ldc 253, 2) := by decide +kernel
theorem dX6_strike_19 : decode cX6_strike 19 = .ok (.invokespecial 80, 3) := by decide +kernel
theorem dX6_strike_22 : decode cX6_strike 22 = .ok (.athrow, 1) := by decide +kernel
theorem dX6_strike_23 : decode cX6_strike 23 = .ok (.aload_n 2, 1) := by decide +kernel
theorem dX6_strike_24 : decode cX6_strike 24 = .ok (.iconst 0, 1) := by decide +kernel
theorem dX6_strike_25 : decode cX6_strike 25 = .ok (.putfield 250, 3) := by decide +kernel
theorem dX6_strike_28 : decode cX6_strike 28 = .ok (.aload_n 0, 1) := by decide +kernel
theorem dX6_strike_29 : decode cX6_strike 29 = .ok (.getfield 35, 3) := by decide +kernel
theorem dX6_strike_32 : decode cX6_strike 32 = .ok (.iload_n 1, 1) := by decide +kernel
theorem dX6_strike_33 : decode cX6_strike 33 = .ok (.aload_n 2, 1) := by decide +kernel
theorem dX6_strike_34 : decode cX6_strike 34 = .ok (.getfield 236, 3) := by decide +kernel
theorem dX6_strike_37 : decode cX6_strike 37 = .ok (.invokevirtual 255, 3) := by decide +kernel
theorem dX6_strike_40 : decode cX6_strike 40 = .ok (.ireturn, 1) := by decide +kernel
theorem dX6_giveBack_0 : decode cX6_giveBack 0 = .ok (.aload_n 0, 1) := by decide +kernel
theorem dX6_giveBack_1 : decode cX6_giveBack 1 = .ok (.iload_n 1, 1) := by decide +kernel
theorem dX6_giveBack_2 : decode cX6_giveBack 2 = .ok (.invokevirtual 194, 3) := by decide +kernel
theorem dX6_giveBack_5 : decode cX6_giveBack 5 = .ok (.astore_n 2, 1) := by decide +kernel
theorem dX6_giveBack_6 : decode cX6_giveBack 6 = .ok (.aload_n 2, 1) := by decide +kernel
theorem dX6_giveBack_7 : decode cX6_giveBack 7 = .ok (.getfield 250, 3) := by decide +kernel
theorem dX6_giveBack_10 : decode cX6_giveBack 10 = .ok (.ifCond .eq 14, 3) := by decide +kernel
theorem dX6_giveBack_13 : decode cX6_giveBack 13 = .ok (.new 76, 3) := by decide +kernel
theorem dX6_giveBack_16 : decode cX6_giveBack 16 = .ok (.dup, 1) := by decide +kernel
theorem dX6_giveBack_17 : decode cX6_giveBack 17 = .ok (.ldc_w 259, 3) := by decide +kernel
theorem dX6_giveBack_20 : decode cX6_giveBack 20 = .ok (.invokespecial 80, 3) := by decide +kernel
theorem dX6_giveBack_23 : decode cX6_giveBack 23 = .ok (.athrow, 1) := by decide +kernel
theorem dX6_giveBack_24 : decode cX6_giveBack 24 = .ok (.aload_n 2, 1) := by decide +kernel
theorem dX6_giveBack_25 : decode cX6_giveBack 25 = .ok (.iconst 1, 1) := by decide +kernel
theorem dX6_giveBack_26 : decode cX6_giveBack 26 = .ok (.putfield 250, 3) := by decide +kernel
theorem dX6_giveBack_29 : decode cX6_giveBack 29 = .ok (.aload_n 0, 1) := by decide +kernel
theorem dX6_giveBack_30 : decode cX6_giveBack 30 = .ok (.getfield 35, 3) := by decide +kernel
theorem dX6_giveBack_33 : decode cX6_giveBack 33 = .ok (.invokevirtual 261, 3) := by decide +kernel
theorem dX6_giveBack_36 : decode cX6_giveBack 36 = .ok (.ireturn, 1) := by decide +kernel
theorem dX6_stands_0 : decode cX6_stands 0 = .ok (.aload_n 0, 1) := by decide +kernel
theorem dX6_stands_1 : decode cX6_stands 1 = .ok (.iload_n 1, 1) := by decide +kernel
theorem dX6_stands_2 : decode cX6_stands 2 = .ok (.invokevirtual 194, 3) := by decide +kernel
theorem dX6_stands_5 : decode cX6_stands 5 = .ok (.getfield 250, 3) := by decide +kernel
theorem dX6_stands_8 : decode cX6_stands 8 = .ok (.ireturn, 1) := by decide +kernel
theorem dX6_penalty_0 : decode cX6_penalty 0 = .ok (.aload_n 0, 1) := by decide +kernel
theorem dX6_penalty_1 : decode cX6_penalty 1 = .ok (.iload_n 1, 1) := by decide +kernel
theorem dX6_penalty_2 : decode cX6_penalty 2 = .ok (.invokevirtual 194, 3) := by decide +kernel
theorem dX6_penalty_5 : decode cX6_penalty 5 = .ok (.astore_n 3, 1) := by decide +kernel
theorem dX6_penalty_6 : decode cX6_penalty 6 = .ok (.iload_n 2, 1) := by decide +kernel
theorem dX6_penalty_7 : decode cX6_penalty 7 = .ok (.iconst 0, 1) := by decide +kernel
theorem dX6_penalty_8 : decode cX6_penalty 8 = .ok (.sipush 9999, 3) := by decide +kernel
theorem dX6_penalty_11 : decode cX6_penalty 11 = .ok (.invokestatic 63, 3) := by decide +kernel
theorem dX6_penalty_14 : decode cX6_penalty 14 = .ok (.ifCond .ne 14, 3) := by decide +kernel
theorem dX6_penalty_17 : decode cX6_penalty 17 = .ok (.new 67, 3) := by decide +kernel
theorem dX6_penalty_20 : decode cX6_penalty 20 = .ok (.dup, 1) := by decide +kernel
theorem dX6_penalty_21 : decode cX6_penalty 21 = .ok (.ldc_w 264, 3) := by decide +kernel
theorem dX6_penalty_24 : decode cX6_penalty 24 = .ok (.invokespecial 71, 3) := by decide +kernel
theorem dX6_penalty_27 : decode cX6_penalty 27 = .ok (.athrow, 1) := by decide +kernel
theorem dX6_penalty_28 : decode cX6_penalty 28 = .ok (.aload_n 3, 1) := by decide +kernel
theorem dX6_penalty_29 : decode cX6_penalty 29 = .ok (.getfield 266, 3) := by decide +kernel
theorem dX6_penalty_32 : decode cX6_penalty 32 = .ok (.istore 4, 2) := by decide +kernel
theorem dX6_penalty_34 : decode cX6_penalty 34 = .ok (.aload_n 3, 1) := by decide +kernel
theorem dX6_penalty_35 : decode cX6_penalty 35 = .ok (.iload_n 2, 1) := by decide +kernel
theorem dX6_penalty_36 : decode cX6_penalty 36 = .ok (.putfield 266, 3) := by decide +kernel
theorem dX6_penalty_39 : decode cX6_penalty 39 = .ok (.iload 4, 2) := by decide +kernel
theorem dX6_penalty_41 : decode cX6_penalty 41 = .ok (.ireturn, 1) := by decide +kernel
theorem dX6_round_0 : decode cX6_round 0 = .ok (.aload_n 0, 1) := by decide +kernel
theorem dX6_round_1 : decode cX6_round 1 = .ok (.iload_n 1, 1) := by decide +kernel
theorem dX6_round_2 : decode cX6_round 2 = .ok (.invokevirtual 59, 3) := by decide +kernel
theorem dX6_round_5 : decode cX6_round 5 = .ok (.pop, 1) := by decide +kernel
theorem dX6_round_6 : decode cX6_round 6 = .ok (.aload_n 0, 1) := by decide +kernel
theorem dX6_round_7 : decode cX6_round 7 = .ok (.getfield 42, 3) := by decide +kernel
theorem dX6_round_10 : decode cX6_round 10 = .ok (.getfield 269, 3) := by decide +kernel
theorem dX6_round_13 : decode cX6_round 13 = .ok (.bipush 10, 2) := by decide +kernel
theorem dX6_round_15 : decode cX6_round 15 = .ok (.if_icmp .lt 14, 3) := by decide +kernel
theorem dX6_round_18 : decode cX6_round 18 = .ok (.new 52, 3) := by decide +kernel
theorem dX6_round_21 : decode cX6_round 21 = .ok (.dup, 1) := by decide +kernel
theorem dX6_round_22 : decode cX6_round 22 = .ok (.ldc_w 272, 3) := by decide +kernel
theorem dX6_round_25 : decode cX6_round 25 = .ok (.invokespecial 56, 3) := by decide +kernel
theorem dX6_round_28 : decode cX6_round 28 = .ok (.athrow, 1) := by decide +kernel
theorem dX6_round_29 : decode cX6_round 29 = .ok (.aload_n 0, 1) := by decide +kernel
theorem dX6_round_30 : decode cX6_round 30 = .ok (.getfield 42, 3) := by decide +kernel
theorem dX6_round_33 : decode cX6_round 33 = .ok (.iload_n 1, 1) := by decide +kernel
theorem dX6_round_34 : decode cX6_round 34 = .ok (.invokevirtual 274, 3) := by decide +kernel
theorem dX6_round_37 : decode cX6_round 37 = .ok (.aload_n 0, 1) := by decide +kernel
theorem dX6_round_38 : decode cX6_round 38 = .ok (.getfield 42, 3) := by decide +kernel
theorem dX6_round_41 : decode cX6_round 41 = .ok (.getfield 277, 3) := by decide +kernel
theorem dX6_round_44 : decode cX6_round 44 = .ok (.ireturn, 1) := by decide +kernel
theorem dX6_shut_0 : decode cX6_shut 0 = .ok (.aload_n 0, 1) := by decide +kernel
theorem dX6_shut_1 : decode cX6_shut 1 = .ok (.getfield 42, 3) := by decide +kernel
theorem dX6_shut_4 : decode cX6_shut 4 = .ok (.getfield 277, 3) := by decide +kernel
theorem dX6_shut_7 : decode cX6_shut 7 = .ok (.istore_n 1, 1) := by decide +kernel
theorem dX6_shut_8 : decode cX6_shut 8 = .ok (.iload_n 1, 1) := by decide +kernel
theorem dX6_shut_9 : decode cX6_shut 9 = .ok (.iconst (-1), 1) := by decide +kernel
theorem dX6_shut_10 : decode cX6_shut 10 = .ok (.if_icmp .ne 14, 3) := by decide +kernel
theorem dX6_shut_13 : decode cX6_shut 13 = .ok (.new 52, 3) := by decide +kernel
theorem dX6_shut_16 : decode cX6_shut 16 = .ok (.dup, 1) := by decide +kernel
theorem dX6_shut_17 : decode cX6_shut 17 = .ok (.ldc_w 280, 3) := by decide +kernel
theorem dX6_shut_20 : decode cX6_shut 20 = .ok (.invokespecial 56, 3) := by decide +kernel
theorem dX6_shut_23 : decode cX6_shut 23 = .ok (.athrow, 1) := by decide +kernel
theorem dX6_shut_24 : decode cX6_shut 24 = .ok (.aload_n 0, 1) := by decide +kernel
theorem dX6_shut_25 : decode cX6_shut 25 = .ok (.getfield 42, 3) := by decide +kernel
theorem dX6_shut_28 : decode cX6_shut 28 = .ok (.iconst (-1), 1) := by decide +kernel
theorem dX6_shut_29 : decode cX6_shut 29 = .ok (.putfield 277, 3) := by decide +kernel
theorem dX6_shut_32 : decode cX6_shut 32 = .ok (.iload_n 1, 1) := by decide +kernel
theorem dX6_shut_33 : decode cX6_shut 33 = .ok (.ireturn, 1) := by decide +kernel
theorem dX6_lapIn_0 : decode cX6_lapIn 0 = .ok (.aload_n 0, 1) := by decide +kernel
theorem dX6_lapIn_1 : decode cX6_lapIn 1 = .ok (.iload_n 1, 1) := by decide +kernel
theorem dX6_lapIn_2 : decode cX6_lapIn 2 = .ok (.iload_n 2, 1) := by decide +kernel
theorem dX6_lapIn_3 : decode cX6_lapIn 3 = .ok (.invokevirtual 282, 3) := by decide +kernel
theorem dX6_lapIn_6 : decode cX6_lapIn 6 = .ok (.ireturn, 1) := by decide +kernel
theorem dX6_placeIn_0 : decode cX6_placeIn 0 = .ok (.aload_n 0, 1) := by decide +kernel
theorem dX6_placeIn_1 : decode cX6_placeIn 1 = .ok (.getfield 42, 3) := by decide +kernel
theorem dX6_placeIn_4 : decode cX6_placeIn 4 = .ok (.aload_n 0, 1) := by decide +kernel
theorem dX6_placeIn_5 : decode cX6_placeIn 5 = .ok (.getfield 35, 3) := by decide +kernel
theorem dX6_placeIn_8 : decode cX6_placeIn 8 = .ok (.aload_n 0, 1) := by decide +kernel
theorem dX6_placeIn_9 : decode cX6_placeIn 9 = .ok (.iload_n 1, 1) := by decide +kernel
theorem dX6_placeIn_10 : decode cX6_placeIn 10 = .ok (.iload_n 2, 1) := by decide +kernel
theorem dX6_placeIn_11 : decode cX6_placeIn 11 = .ok (.invokevirtual 282, 3) := by decide +kernel
theorem dX6_placeIn_14 : decode cX6_placeIn 14 = .ok (.invokevirtual 285, 3) := by decide +kernel
theorem dX6_placeIn_17 : decode cX6_placeIn 17 = .ok (.iconst 1, 1) := by decide +kernel
theorem dX6_placeIn_18 : decode cX6_placeIn 18 = .ok (.iadd, 1) := by decide +kernel
theorem dX6_placeIn_19 : decode cX6_placeIn 19 = .ok (.ireturn, 1) := by decide +kernel
theorem dX6_findLap_0 : decode cX6_findLap 0 = .ok (.iload_n 1, 1) := by decide +kernel
theorem dX6_findLap_1 : decode cX6_findLap 1 = .ok (.ifCond .lt 14, 3) := by decide +kernel
theorem dX6_findLap_4 : decode cX6_findLap 4 = .ok (.iload_n 1, 1) := by decide +kernel
theorem dX6_findLap_5 : decode cX6_findLap 5 = .ok (.aload_n 0, 1) := by decide +kernel
theorem dX6_findLap_6 : decode cX6_findLap 6 = .ok (.getfield 42, 3) := by decide +kernel
theorem dX6_findLap_9 : decode cX6_findLap 9 = .ok (.getfield 269, 3) := by decide +kernel
theorem dX6_findLap_12 : decode cX6_findLap 12 = .ok (.if_icmp .lt 14, 3) := by decide +kernel
theorem dX6_findLap_15 : decode cX6_findLap 15 = .ok (.new 289, 3) := by decide +kernel
theorem dX6_findLap_18 : decode cX6_findLap 18 = .ok (.dup, 1) := by decide +kernel
theorem dX6_findLap_19 : decode cX6_findLap 19 = .ok (.ldc_w 291, 3) := by decide +kernel
theorem dX6_findLap_22 : decode cX6_findLap 22 = .ok (.invokespecial 293, 3) := by decide +kernel
theorem dX6_findLap_25 : decode cX6_findLap 25 = .ok (.athrow, 1) := by decide +kernel
theorem dX6_findLap_26 : decode cX6_findLap 26 = .ok (.aload_n 0, 1) := by decide +kernel
theorem dX6_findLap_27 : decode cX6_findLap 27 = .ok (.iload_n 2, 1) := by decide +kernel
theorem dX6_findLap_28 : decode cX6_findLap 28 = .ok (.invokevirtual 125, 3) := by decide +kernel
theorem dX6_findLap_31 : decode cX6_findLap 31 = .ok (.aload_n 0, 1) := by decide +kernel
theorem dX6_findLap_32 : decode cX6_findLap 32 = .ok (.getfield 42, 3) := by decide +kernel
theorem dX6_findLap_35 : decode cX6_findLap 35 = .ok (.aload_n 0, 1) := by decide +kernel
theorem dX6_findLap_36 : decode cX6_findLap 36 = .ok (.getfield 35, 3) := by decide +kernel
theorem dX6_findLap_39 : decode cX6_findLap 39 = .ok (.iload_n 1, 1) := by decide +kernel
theorem dX6_findLap_40 : decode cX6_findLap 40 = .ok (.invokevirtual 294, 3) := by decide +kernel
theorem dX6_findLap_43 : decode cX6_findLap 43 = .ok (.aload_n 0, 1) := by decide +kernel
theorem dX6_findLap_44 : decode cX6_findLap 44 = .ok (.getfield 42, 3) := by decide +kernel
theorem dX6_findLap_47 : decode cX6_findLap 47 = .ok (.getfield 298, 3) := by decide +kernel
theorem dX6_findLap_50 : decode cX6_findLap 50 = .ok (.iload_n 2, 1) := by decide +kernel
theorem dX6_findLap_51 : decode cX6_findLap 51 = .ok (.iaload, 1) := by decide +kernel
theorem dX6_findLap_52 : decode cX6_findLap 52 = .ok (.iconst (-1), 1) := by decide +kernel
theorem dX6_findLap_53 : decode cX6_findLap 53 = .ok (.if_icmp .ne 14, 3) := by decide +kernel
theorem dX6_findLap_56 : decode cX6_findLap 56 = .ok (.new 109, 3) := by decide +kernel
theorem dX6_findLap_59 : decode cX6_findLap 59 = .ok (.dup, 1) := by decide +kernel
theorem dX6_findLap_60 : decode cX6_findLap 60 = .ok (.ldc_w 302, 3) := by decide +kernel
theorem dX6_findLap_63 : decode cX6_findLap 63 = .ok (.invokespecial 113, 3) := by decide +kernel
theorem dX6_findLap_66 : decode cX6_findLap 66 = .ok (.athrow, 1) := by decide +kernel
theorem dX6_findLap_67 : decode cX6_findLap 67 = .ok (.aload_n 0, 1) := by decide +kernel
theorem dX6_findLap_68 : decode cX6_findLap 68 = .ok (.getfield 42, 3) := by decide +kernel
theorem dX6_findLap_71 : decode cX6_findLap 71 = .ok (.getfield 298, 3) := by decide +kernel
theorem dX6_findLap_74 : decode cX6_findLap 74 = .ok (.iload_n 2, 1) := by decide +kernel
theorem dX6_findLap_75 : decode cX6_findLap 75 = .ok (.iaload, 1) := by decide +kernel
theorem dX6_findLap_76 : decode cX6_findLap 76 = .ok (.ireturn, 1) := by decide +kernel
theorem dX6_drop_0 : decode cX6_drop 0 = .ok (.iload_n 1, 1) := by decide +kernel
theorem dX6_drop_1 : decode cX6_drop 1 = .ok (.iconst 0, 1) := by decide +kernel
theorem dX6_drop_2 : decode cX6_drop 2 = .ok (.iconst 3, 1) := by decide +kernel
theorem dX6_drop_3 : decode cX6_drop 3 = .ok (.invokestatic 63, 3) := by decide +kernel
theorem dX6_drop_6 : decode cX6_drop 6 = .ok (.ifCond .ne 14, 3) := by decide +kernel
theorem dX6_drop_9 : decode cX6_drop 9 = .ok (.new 67, 3) := by decide +kernel
theorem dX6_drop_12 : decode cX6_drop 12 = .ok (.dup, 1) := by decide +kernel
theorem dX6_drop_13 : decode cX6_drop 13 = .ok (.ldc_w 304, 3) := by decide +kernel
theorem dX6_drop_16 : decode cX6_drop 16 = .ok (.invokespecial 71, 3) := by decide +kernel
theorem dX6_drop_19 : decode cX6_drop 19 = .ok (.athrow, 1) := by decide +kernel
theorem dX6_drop_20 : decode cX6_drop 20 = .ok (.aload_n 0, 1) := by decide +kernel
theorem dX6_drop_21 : decode cX6_drop 21 = .ok (.getfield 42, 3) := by decide +kernel
theorem dX6_drop_24 : decode cX6_drop 24 = .ok (.getfield 306, 3) := by decide +kernel
theorem dX6_drop_27 : decode cX6_drop 27 = .ok (.istore_n 2, 1) := by decide +kernel
theorem dX6_drop_28 : decode cX6_drop 28 = .ok (.aload_n 0, 1) := by decide +kernel
theorem dX6_drop_29 : decode cX6_drop 29 = .ok (.getfield 42, 3) := by decide +kernel
theorem dX6_drop_32 : decode cX6_drop 32 = .ok (.iload_n 1, 1) := by decide +kernel
theorem dX6_drop_33 : decode cX6_drop 33 = .ok (.putfield 306, 3) := by decide +kernel
theorem dX6_drop_36 : decode cX6_drop 36 = .ok (.iload_n 2, 1) := by decide +kernel
theorem dX6_drop_37 : decode cX6_drop 37 = .ok (.ireturn, 1) := by decide +kernel
theorem dX6_points_0 : decode cX6_points 0 = .ok (.aload_n 0, 1) := by decide +kernel
theorem dX6_points_1 : decode cX6_points 1 = .ok (.iload_n 1, 1) := by decide +kernel
theorem dX6_points_2 : decode cX6_points 2 = .ok (.invokevirtual 125, 3) := by decide +kernel
theorem dX6_points_5 : decode cX6_points 5 = .ok (.aload_n 0, 1) := by decide +kernel
theorem dX6_points_6 : decode cX6_points 6 = .ok (.getfield 42, 3) := by decide +kernel
theorem dX6_points_9 : decode cX6_points 9 = .ok (.aload_n 0, 1) := by decide +kernel
theorem dX6_points_10 : decode cX6_points 10 = .ok (.getfield 35, 3) := by decide +kernel
theorem dX6_points_13 : decode cX6_points 13 = .ok (.invokevirtual 309, 3) := by decide +kernel
theorem dX6_points_16 : decode cX6_points 16 = .ok (.aload_n 0, 1) := by decide +kernel
theorem dX6_points_17 : decode cX6_points 17 = .ok (.getfield 42, 3) := by decide +kernel
theorem dX6_points_20 : decode cX6_points 20 = .ok (.getfield 313, 3) := by decide +kernel
theorem dX6_points_23 : decode cX6_points 23 = .ok (.iload_n 1, 1) := by decide +kernel
theorem dX6_points_24 : decode cX6_points 24 = .ok (.iaload, 1) := by decide +kernel
theorem dX6_points_25 : decode cX6_points 25 = .ok (.ireturn, 1) := by decide +kernel
theorem dX6_wins_0 : decode cX6_wins 0 = .ok (.aload_n 0, 1) := by decide +kernel
theorem dX6_wins_1 : decode cX6_wins 1 = .ok (.iload_n 1, 1) := by decide +kernel
theorem dX6_wins_2 : decode cX6_wins 2 = .ok (.invokevirtual 125, 3) := by decide +kernel
theorem dX6_wins_5 : decode cX6_wins 5 = .ok (.aload_n 0, 1) := by decide +kernel
theorem dX6_wins_6 : decode cX6_wins 6 = .ok (.getfield 42, 3) := by decide +kernel
theorem dX6_wins_9 : decode cX6_wins 9 = .ok (.aload_n 0, 1) := by decide +kernel
theorem dX6_wins_10 : decode cX6_wins 10 = .ok (.getfield 35, 3) := by decide +kernel
theorem dX6_wins_13 : decode cX6_wins 13 = .ok (.invokevirtual 309, 3) := by decide +kernel
theorem dX6_wins_16 : decode cX6_wins 16 = .ok (.aload_n 0, 1) := by decide +kernel
theorem dX6_wins_17 : decode cX6_wins 17 = .ok (.getfield 42, 3) := by decide +kernel
theorem dX6_wins_20 : decode cX6_wins 20 = .ok (.getfield 316, 3) := by decide +kernel
theorem dX6_wins_23 : decode cX6_wins 23 = .ok (.iload_n 1, 1) := by decide +kernel
theorem dX6_wins_24 : decode cX6_wins 24 = .ok (.iaload, 1) := by decide +kernel
theorem dX6_wins_25 : decode cX6_wins 25 = .ok (.ireturn, 1) := by decide +kernel
theorem dX6_standing_0 : decode cX6_standing 0 = .ok (.iload_n 1, 1) := by decide +kernel
theorem dX6_standing_1 : decode cX6_standing 1 = .ok (.ifCond .lt 9, 3) := by decide +kernel
theorem dX6_standing_4 : decode cX6_standing 4 = .ok (.iload_n 1, 1) := by decide +kernel
theorem dX6_standing_5 : decode cX6_standing 5 = .ok (.bipush 6, 2) := by decide +kernel
theorem dX6_standing_7 : decode cX6_standing 7 = .ok (.if_icmp .lt 13, 3) := by decide +kernel
theorem dX6_standing_10 : decode cX6_standing 10 = .ok (.new 289, 3) := by decide +kernel
theorem dX6_standing_13 : decode cX6_standing 13 = .ok (.dup, 1) := by decide +kernel
theorem dX6_standing_14 : decode cX6_standing 14 = .ok (.ldc 111, 2) := by decide +kernel
theorem dX6_standing_16 : decode cX6_standing 16 = .ok (.invokespecial 293, 3) := by decide +kernel
theorem dX6_standing_19 : decode cX6_standing 19 = .ok (.athrow, 1) := by decide +kernel
theorem dX6_standing_20 : decode cX6_standing 20 = .ok (.aload_n 0, 1) := by decide +kernel
theorem dX6_standing_21 : decode cX6_standing 21 = .ok (.getfield 42, 3) := by decide +kernel
theorem dX6_standing_24 : decode cX6_standing 24 = .ok (.aload_n 0, 1) := by decide +kernel
theorem dX6_standing_25 : decode cX6_standing 25 = .ok (.getfield 35, 3) := by decide +kernel
theorem dX6_standing_28 : decode cX6_standing 28 = .ok (.invokevirtual 309, 3) := by decide +kernel
theorem dX6_standing_31 : decode cX6_standing 31 = .ok (.aload_n 0, 1) := by decide +kernel
theorem dX6_standing_32 : decode cX6_standing 32 = .ok (.getfield 42, 3) := by decide +kernel
theorem dX6_standing_35 : decode cX6_standing 35 = .ok (.iload_n 1, 1) := by decide +kernel
theorem dX6_standing_36 : decode cX6_standing 36 = .ok (.invokevirtual 319, 3) := by decide +kernel
theorem dX6_standing_39 : decode cX6_standing 39 = .ok (.ireturn, 1) := by decide +kernel
theorem dX6_checksum_0 : decode cX6_checksum 0 = .ok (.ldc2_w 322, 3) := by decide +kernel
theorem dX6_checksum_3 : decode cX6_checksum 3 = .ok (.lstore_n 1, 1) := by decide +kernel
theorem dX6_checksum_4 : decode cX6_checksum 4 = .ok (.iconst 0, 1) := by decide +kernel
theorem dX6_checksum_5 : decode cX6_checksum 5 = .ok (.istore_n 3, 1) := by decide +kernel
theorem dX6_checksum_6 : decode cX6_checksum 6 = .ok (.iload_n 3, 1) := by decide +kernel
theorem dX6_checksum_7 : decode cX6_checksum 7 = .ok (.aload_n 0, 1) := by decide +kernel
theorem dX6_checksum_8 : decode cX6_checksum 8 = .ok (.getfield 35, 3) := by decide +kernel
theorem dX6_checksum_11 : decode cX6_checksum 11 = .ok (.getfield 143, 3) := by decide +kernel
theorem dX6_checksum_14 : decode cX6_checksum 14 = .ok (.if_icmp .ge 62, 3) := by decide +kernel
theorem dX6_checksum_17 : decode cX6_checksum 17 = .ok (.aload_n 0, 1) := by decide +kernel
theorem dX6_checksum_18 : decode cX6_checksum 18 = .ok (.getfield 35, 3) := by decide +kernel
theorem dX6_checksum_21 : decode cX6_checksum 21 = .ok (.getfield 148, 3) := by decide +kernel
theorem dX6_checksum_24 : decode cX6_checksum 24 = .ok (.iload_n 3, 1) := by decide +kernel
theorem dX6_checksum_25 : decode cX6_checksum 25 = .ok (.aaload, 1) := by decide +kernel
theorem dX6_checksum_26 : decode cX6_checksum 26 = .ok (.astore 4, 2) := by decide +kernel
theorem dX6_checksum_28 : decode cX6_checksum 28 = .ok (.ldc2_w 324, 3) := by decide +kernel
theorem dX6_checksum_31 : decode cX6_checksum 31 = .ok (.lload_n 1, 1) := by decide +kernel
theorem dX6_checksum_32 : decode cX6_checksum 32 = .ok (.lmul, 1) := by decide +kernel
theorem dX6_checksum_33 : decode cX6_checksum 33 = .ok (.aload 4, 2) := by decide +kernel
theorem dX6_checksum_35 : decode cX6_checksum 35 = .ok (.getfield 202, 3) := by decide +kernel
theorem dX6_checksum_38 : decode cX6_checksum 38 = .ok (.i2l, 1) := by decide +kernel
theorem dX6_checksum_39 : decode cX6_checksum 39 = .ok (.ladd, 1) := by decide +kernel
theorem dX6_checksum_40 : decode cX6_checksum 40 = .ok (.aload 4, 2) := by decide +kernel
theorem dX6_checksum_42 : decode cX6_checksum 42 = .ok (.getfield 266, 3) := by decide +kernel
theorem dX6_checksum_45 : decode cX6_checksum 45 = .ok (.i2l, 1) := by decide +kernel
theorem dX6_checksum_46 : decode cX6_checksum 46 = .ok (.ladd, 1) := by decide +kernel
theorem dX6_checksum_47 : decode cX6_checksum 47 = .ok (.aload 4, 2) := by decide +kernel
theorem dX6_checksum_49 : decode cX6_checksum 49 = .ok (.getfield 244, 3) := by decide +kernel
theorem dX6_checksum_52 : decode cX6_checksum 52 = .ok (.i2l, 1) := by decide +kernel
theorem dX6_checksum_53 : decode cX6_checksum 53 = .ok (.ladd, 1) := by decide +kernel
theorem dX6_checksum_54 : decode cX6_checksum 54 = .ok (.aload 4, 2) := by decide +kernel
theorem dX6_checksum_56 : decode cX6_checksum 56 = .ok (.getfield 250, 3) := by decide +kernel
theorem dX6_checksum_59 : decode cX6_checksum 59 = .ok (.ifCond .eq 7, 3) := by decide +kernel
theorem dX6_checksum_62 : decode cX6_checksum 62 = .ok (.iconst 1, 1) := by decide +kernel
theorem dX6_checksum_63 : decode cX6_checksum 63 = .ok (.goto 4, 3) := by decide +kernel
theorem dX6_checksum_66 : decode cX6_checksum 66 = .ok (.iconst 0, 1) := by decide +kernel
theorem dX6_checksum_67 : decode cX6_checksum 67 = .ok (.i2l, 1) := by decide +kernel
theorem dX6_checksum_68 : decode cX6_checksum 68 = .ok (.ladd, 1) := by decide +kernel
theorem dX6_checksum_69 : decode cX6_checksum 69 = .ok (.lstore_n 1, 1) := by decide +kernel
theorem dX6_checksum_70 : decode cX6_checksum 70 = .ok (.iinc 3 1, 3) := by decide +kernel
theorem dX6_checksum_73 : decode cX6_checksum 73 = .ok (.goto (-67), 3) := by decide +kernel
theorem dX6_checksum_76 : decode cX6_checksum 76 = .ok (.lload_n 1, 1) := by decide +kernel
theorem dX6_checksum_77 : decode cX6_checksum 77 = .ok (.lreturn, 1) := by decide +kernel
theorem dX6_shareStored_0 : decode cX6_shareStored 0 = .ok (.iconst 0, 1) := by decide +kernel
theorem dX6_shareStored_1 : decode cX6_shareStored 1 = .ok (.istore_n 1, 1) := by decide +kernel
theorem dX6_shareStored_2 : decode cX6_shareStored 2 = .ok (.iconst 0, 1) := by decide +kernel
theorem dX6_shareStored_3 : decode cX6_shareStored 3 = .ok (.istore_n 2, 1) := by decide +kernel
theorem dX6_shareStored_4 : decode cX6_shareStored 4 = .ok (.iload_n 2, 1) := by decide +kernel
theorem dX6_shareStored_5 : decode cX6_shareStored 5 = .ok (.aload_n 0, 1) := by decide +kernel
theorem dX6_shareStored_6 : decode cX6_shareStored 6 = .ok (.getfield 35, 3) := by decide +kernel
theorem dX6_shareStored_9 : decode cX6_shareStored 9 = .ok (.getfield 143, 3) := by decide +kernel
theorem dX6_shareStored_12 : decode cX6_shareStored 12 = .ok (.if_icmp .ge 24, 3) := by decide +kernel
theorem dX6_shareStored_15 : decode cX6_shareStored 15 = .ok (.iload_n 1, 1) := by decide +kernel
theorem dX6_shareStored_16 : decode cX6_shareStored 16 = .ok (.aload_n 0, 1) := by decide +kernel
theorem dX6_shareStored_17 : decode cX6_shareStored 17 = .ok (.getfield 35, 3) := by decide +kernel
theorem dX6_shareStored_20 : decode cX6_shareStored 20 = .ok (.getfield 148, 3) := by decide +kernel
theorem dX6_shareStored_23 : decode cX6_shareStored 23 = .ok (.iload_n 2, 1) := by decide +kernel
theorem dX6_shareStored_24 : decode cX6_shareStored 24 = .ok (.aaload, 1) := by decide +kernel
theorem dX6_shareStored_25 : decode cX6_shareStored 25 = .ok (.getfield 203, 3) := by decide +kernel
theorem dX6_shareStored_28 : decode cX6_shareStored 28 = .ok (.iadd, 1) := by decide +kernel
theorem dX6_shareStored_29 : decode cX6_shareStored 29 = .ok (.istore_n 1, 1) := by decide +kernel
theorem dX6_shareStored_30 : decode cX6_shareStored 30 = .ok (.iinc 2 1, 3) := by decide +kernel
theorem dX6_shareStored_33 : decode cX6_shareStored 33 = .ok (.goto (-29), 3) := by decide +kernel
theorem dX6_shareStored_36 : decode cX6_shareStored 36 = .ok (.iload_n 1, 1) := by decide +kernel
theorem dX6_shareStored_37 : decode cX6_shareStored 37 = .ok (.ifCond .ne 14, 3) := by decide +kernel
theorem dX6_shareStored_40 : decode cX6_shareStored 40 = .ok (.new 109, 3) := by decide +kernel
theorem dX6_shareStored_43 : decode cX6_shareStored 43 = .ok (.dup, 1) := by decide +kernel
theorem dX6_shareStored_44 : decode cX6_shareStored 44 = .ok (.ldc_w 326, 3) := by decide +kernel
theorem dX6_shareStored_47 : decode cX6_shareStored 47 = .ok (.invokespecial 113, 3) := by decide +kernel
theorem dX6_shareStored_50 : decode cX6_shareStored 50 = .ok (.athrow, 1) := by decide +kernel
theorem dX6_shareStored_51 : decode cX6_shareStored 51 = .ok (.aload_n 0, 1) := by decide +kernel
theorem dX6_shareStored_52 : decode cX6_shareStored 52 = .ok (.invokevirtual 328, 3) := by decide +kernel
theorem dX6_shareStored_55 : decode cX6_shareStored 55 = .ok (.i2f, 1) := by decide +kernel
theorem dX6_shareStored_56 : decode cX6_shareStored 56 = .ok (.iload_n 1, 1) := by decide +kernel
theorem dX6_shareStored_57 : decode cX6_shareStored 57 = .ok (.i2f, 1) := by decide +kernel
theorem dX6_shareStored_58 : decode cX6_shareStored 58 = .ok (.fdiv, 1) := by decide +kernel
theorem dX6_shareStored_59 : decode cX6_shareStored 59 = .ok (.freturn, 1) := by decide +kernel
theorem dX6_meanTime_0 : decode cX6_meanTime 0 = .ok (.aload_n 0, 1) := by decide +kernel
theorem dX6_meanTime_1 : decode cX6_meanTime 1 = .ok (.getfield 35, 3) := by decide +kernel
theorem dX6_meanTime_4 : decode cX6_meanTime 4 = .ok (.invokevirtual 261, 3) := by decide +kernel
theorem dX6_meanTime_7 : decode cX6_meanTime 7 = .ok (.istore_n 1, 1) := by decide +kernel
theorem dX6_meanTime_8 : decode cX6_meanTime 8 = .ok (.iload_n 1, 1) := by decide +kernel
theorem dX6_meanTime_9 : decode cX6_meanTime 9 = .ok (.ifCond .ne 14, 3) := by decide +kernel
theorem dX6_meanTime_12 : decode cX6_meanTime 12 = .ok (.new 109, 3) := by decide +kernel
theorem dX6_meanTime_15 : decode cX6_meanTime 15 = .ok (.dup, 1) := by decide +kernel
theorem dX6_meanTime_16 : decode cX6_meanTime 16 = .ok (.ldc_w 331, 3) := by decide +kernel
theorem dX6_meanTime_19 : decode cX6_meanTime 19 = .ok (.invokespecial 113, 3) := by decide +kernel
theorem dX6_meanTime_22 : decode cX6_meanTime 22 = .ok (.athrow, 1) := by decide +kernel
theorem dX6_meanTime_23 : decode cX6_meanTime 23 = .ok (.iconst 0, 1) := by decide +kernel
theorem dX6_meanTime_24 : decode cX6_meanTime 24 = .ok (.istore_n 2, 1) := by decide +kernel
theorem dX6_meanTime_25 : decode cX6_meanTime 25 = .ok (.iconst 0, 1) := by decide +kernel
theorem dX6_meanTime_26 : decode cX6_meanTime 26 = .ok (.istore_n 3, 1) := by decide +kernel
theorem dX6_meanTime_27 : decode cX6_meanTime 27 = .ok (.iload_n 3, 1) := by decide +kernel
theorem dX6_meanTime_28 : decode cX6_meanTime 28 = .ok (.aload_n 0, 1) := by decide +kernel
theorem dX6_meanTime_29 : decode cX6_meanTime 29 = .ok (.getfield 35, 3) := by decide +kernel
theorem dX6_meanTime_32 : decode cX6_meanTime 32 = .ok (.getfield 143, 3) := by decide +kernel
theorem dX6_meanTime_35 : decode cX6_meanTime 35 = .ok (.if_icmp .ge 40, 3) := by decide +kernel
theorem dX6_meanTime_38 : decode cX6_meanTime 38 = .ok (.aload_n 0, 1) := by decide +kernel
theorem dX6_meanTime_39 : decode cX6_meanTime 39 = .ok (.getfield 35, 3) := by decide +kernel
theorem dX6_meanTime_42 : decode cX6_meanTime 42 = .ok (.getfield 148, 3) := by decide +kernel
theorem dX6_meanTime_45 : decode cX6_meanTime 45 = .ok (.iload_n 3, 1) := by decide +kernel
theorem dX6_meanTime_46 : decode cX6_meanTime 46 = .ok (.aaload, 1) := by decide +kernel
theorem dX6_meanTime_47 : decode cX6_meanTime 47 = .ok (.astore 4, 2) := by decide +kernel
theorem dX6_meanTime_49 : decode cX6_meanTime 49 = .ok (.iload_n 2, 1) := by decide +kernel
theorem dX6_meanTime_50 : decode cX6_meanTime 50 = .ok (.aload 4, 2) := by decide +kernel
theorem dX6_meanTime_52 : decode cX6_meanTime 52 = .ok (.getfield 250, 3) := by decide +kernel
theorem dX6_meanTime_55 : decode cX6_meanTime 55 = .ok (.ifCond .eq 11, 3) := by decide +kernel
theorem dX6_meanTime_58 : decode cX6_meanTime 58 = .ok (.aload 4, 2) := by decide +kernel
theorem dX6_meanTime_60 : decode cX6_meanTime 60 = .ok (.invokevirtual 198, 3) := by decide +kernel
theorem dX6_meanTime_63 : decode cX6_meanTime 63 = .ok (.goto 4, 3) := by decide +kernel
theorem dX6_meanTime_66 : decode cX6_meanTime 66 = .ok (.iconst 0, 1) := by decide +kernel
theorem dX6_meanTime_67 : decode cX6_meanTime 67 = .ok (.iadd, 1) := by decide +kernel
theorem dX6_meanTime_68 : decode cX6_meanTime 68 = .ok (.istore_n 2, 1) := by decide +kernel
theorem dX6_meanTime_69 : decode cX6_meanTime 69 = .ok (.iinc 3 1, 3) := by decide +kernel
theorem dX6_meanTime_72 : decode cX6_meanTime 72 = .ok (.goto (-45), 3) := by decide +kernel
theorem dX6_meanTime_75 : decode cX6_meanTime 75 = .ok (.iload_n 2, 1) := by decide +kernel
theorem dX6_meanTime_76 : decode cX6_meanTime 76 = .ok (.i2d, 1) := by decide +kernel
theorem dX6_meanTime_77 : decode cX6_meanTime 77 = .ok (.iload_n 1, 1) := by decide +kernel
theorem dX6_meanTime_78 : decode cX6_meanTime 78 = .ok (.i2d, 1) := by decide +kernel
theorem dX6_meanTime_79 : decode cX6_meanTime 79 = .ok (.ddiv, 1) := by decide +kernel
theorem dX6_meanTime_80 : decode cX6_meanTime 80 = .ok (.dreturn, 1) := by decide +kernel
theorem dX6_isSound_0 : decode cX6_isSound 0 = .ok (.iconst 0, 1) := by decide +kernel
theorem dX6_isSound_1 : decode cX6_isSound 1 = .ok (.istore_n 1, 1) := by decide +kernel
theorem dX6_isSound_2 : decode cX6_isSound 2 = .ok (.iload_n 1, 1) := by decide +kernel
theorem dX6_isSound_3 : decode cX6_isSound 3 = .ok (.aload_n 0, 1) := by decide +kernel
theorem dX6_isSound_4 : decode cX6_isSound 4 = .ok (.getfield 35, 3) := by decide +kernel
theorem dX6_isSound_7 : decode cX6_isSound 7 = .ok (.getfield 143, 3) := by decide +kernel
theorem dX6_isSound_10 : decode cX6_isSound 10 = .ok (.if_icmp .ge 116, 3) := by decide +kernel
theorem dX6_isSound_13 : decode cX6_isSound 13 = .ok (.aload_n 0, 1) := by decide +kernel
theorem dX6_isSound_14 : decode cX6_isSound 14 = .ok (.getfield 35, 3) := by decide +kernel
theorem dX6_isSound_17 : decode cX6_isSound 17 = .ok (.getfield 148, 3) := by decide +kernel
theorem dX6_isSound_20 : decode cX6_isSound 20 = .ok (.iload_n 1, 1) := by decide +kernel
theorem dX6_isSound_21 : decode cX6_isSound 21 = .ok (.aaload, 1) := by decide +kernel
theorem dX6_isSound_22 : decode cX6_isSound 22 = .ok (.astore_n 2, 1) := by decide +kernel
theorem dX6_isSound_23 : decode cX6_isSound 23 = .ok (.aload_n 0, 1) := by decide +kernel
theorem dX6_isSound_24 : decode cX6_isSound 24 = .ok (.aload_n 2, 1) := by decide +kernel
theorem dX6_isSound_25 : decode cX6_isSound 25 = .ok (.aload_n 2, 1) := by decide +kernel
theorem dX6_isSound_26 : decode cX6_isSound 26 = .ok (.getfield 203, 3) := by decide +kernel
theorem dX6_isSound_29 : decode cX6_isSound 29 = .ok (.invokevirtual 213, 3) := by decide +kernel
theorem dX6_isSound_32 : decode cX6_isSound 32 = .ok (.aload_n 0, 1) := by decide +kernel
theorem dX6_isSound_33 : decode cX6_isSound 33 = .ok (.getfield 28, 3) := by decide +kernel
theorem dX6_isSound_36 : decode cX6_isSound 36 = .ok (.getfield 189, 3) := by decide +kernel
theorem dX6_isSound_39 : decode cX6_isSound 39 = .ok (.ifCond .eq 21, 3) := by decide +kernel
theorem dX6_isSound_42 : decode cX6_isSound 42 = .ok (.aload_n 0, 1) := by decide +kernel
theorem dX6_isSound_43 : decode cX6_isSound 43 = .ok (.getfield 28, 3) := by decide +kernel
theorem dX6_isSound_46 : decode cX6_isSound 46 = .ok (.getfield 180, 3) := by decide +kernel
theorem dX6_isSound_49 : decode cX6_isSound 49 = .ok (.aload_n 2, 1) := by decide +kernel
theorem dX6_isSound_50 : decode cX6_isSound 50 = .ok (.getfield 202, 3) := by decide +kernel
theorem dX6_isSound_53 : decode cX6_isSound 53 = .ok (.if_icmp .ne 7, 3) := by decide +kernel
theorem dX6_isSound_56 : decode cX6_isSound 56 = .ok (.iconst 1, 1) := by decide +kernel
theorem dX6_isSound_57 : decode cX6_isSound 57 = .ok (.goto 4, 3) := by decide +kernel
theorem dX6_isSound_60 : decode cX6_isSound 60 = .ok (.iconst 0, 1) := by decide +kernel
theorem dX6_isSound_61 : decode cX6_isSound 61 = .ok (.istore_n 3, 1) := by decide +kernel
theorem dX6_isSound_62 : decode cX6_isSound 62 = .ok (.aload_n 0, 1) := by decide +kernel
theorem dX6_isSound_63 : decode cX6_isSound 63 = .ok (.getfield 35, 3) := by decide +kernel
theorem dX6_isSound_66 : decode cX6_isSound 66 = .ok (.aload_n 2, 1) := by decide +kernel
theorem dX6_isSound_67 : decode cX6_isSound 67 = .ok (.getfield 236, 3) := by decide +kernel
theorem dX6_isSound_70 : decode cX6_isSound 70 = .ok (.invokevirtual 225, 3) := by decide +kernel
theorem dX6_isSound_73 : decode cX6_isSound 73 = .ok (.ifCond .eq 25, 3) := by decide +kernel
theorem dX6_isSound_76 : decode cX6_isSound 76 = .ok (.aload_n 0, 1) := by decide +kernel
theorem dX6_isSound_77 : decode cX6_isSound 77 = .ok (.getfield 35, 3) := by decide +kernel
theorem dX6_isSound_80 : decode cX6_isSound 80 = .ok (.getfield 148, 3) := by decide +kernel
theorem dX6_isSound_83 : decode cX6_isSound 83 = .ok (.aload_n 2, 1) := by decide +kernel
theorem dX6_isSound_84 : decode cX6_isSound 84 = .ok (.getfield 236, 3) := by decide +kernel
theorem dX6_isSound_87 : decode cX6_isSound 87 = .ok (.aaload, 1) := by decide +kernel
theorem dX6_isSound_88 : decode cX6_isSound 88 = .ok (.getfield 250, 3) := by decide +kernel
theorem dX6_isSound_91 : decode cX6_isSound 91 = .ok (.ifCond .ne 7, 3) := by decide +kernel
theorem dX6_isSound_94 : decode cX6_isSound 94 = .ok (.iconst 1, 1) := by decide +kernel
theorem dX6_isSound_95 : decode cX6_isSound 95 = .ok (.goto 4, 3) := by decide +kernel
theorem dX6_isSound_98 : decode cX6_isSound 98 = .ok (.iconst 0, 1) := by decide +kernel
theorem dX6_isSound_99 : decode cX6_isSound 99 = .ok (.istore 4, 2) := by decide +kernel
theorem dX6_isSound_101 : decode cX6_isSound 101 = .ok (.iload_n 3, 1) := by decide +kernel
theorem dX6_isSound_102 : decode cX6_isSound 102 = .ok (.ifCond .eq 16, 3) := by decide +kernel
theorem dX6_isSound_105 : decode cX6_isSound 105 = .ok (.iload 4, 2) := by decide +kernel
theorem dX6_isSound_107 : decode cX6_isSound 107 = .ok (.ifCond .ne 11, 3) := by decide +kernel
theorem dX6_isSound_110 : decode cX6_isSound 110 = .ok (.aload_n 2, 1) := by decide +kernel
theorem dX6_isSound_111 : decode cX6_isSound 111 = .ok (.getfield 241, 3) := by decide +kernel
theorem dX6_isSound_114 : decode cX6_isSound 114 = .ok (.iconst 5, 1) := by decide +kernel
theorem dX6_isSound_115 : decode cX6_isSound 115 = .ok (.if_icmp .le 5, 3) := by decide +kernel
theorem dX6_isSound_118 : decode cX6_isSound 118 = .ok (.iconst 0, 1) := by decide +kernel
theorem dX6_isSound_119 : decode cX6_isSound 119 = .ok (.ireturn, 1) := by decide +kernel
theorem dX6_isSound_120 : decode cX6_isSound 120 = .ok (.iinc 1 1, 3) := by decide +kernel
theorem dX6_isSound_123 : decode cX6_isSound 123 = .ok (.goto (-121), 3) := by decide +kernel
theorem dX6_isSound_126 : decode cX6_isSound 126 = .ok (.iconst 1, 1) := by decide +kernel
theorem dX6_isSound_127 : decode cX6_isSound 127 = .ok (.ireturn, 1) := by decide +kernel
theorem dX6_rideAgain_0 : decode cX6_rideAgain 0 = .ok (.aload_n 0, 1) := by decide +kernel
theorem dX6_rideAgain_1 : decode cX6_rideAgain 1 = .ok (.getfield 28, 3) := by decide +kernel
theorem dX6_rideAgain_4 : decode cX6_rideAgain 4 = .ok (.aload_n 1, 1) := by decide +kernel
theorem dX6_rideAgain_5 : decode cX6_rideAgain 5 = .ok (.getfield 208, 3) := by decide +kernel
theorem dX6_rideAgain_8 : decode cX6_rideAgain 8 = .ok (.iload_n 2, 1) := by decide +kernel
theorem dX6_rideAgain_9 : decode cX6_rideAgain 9 = .ok (.aload_n 0, 1) := by decide +kernel
theorem dX6_rideAgain_10 : decode cX6_rideAgain 10 = .ok (.aload_n 1, 1) := by decide +kernel
theorem dX6_rideAgain_11 : decode cX6_rideAgain 11 = .ok (.getfield 157, 3) := by decide +kernel
theorem dX6_rideAgain_14 : decode cX6_rideAgain 14 = .ok (.invokevirtual 59, 3) := by decide +kernel
theorem dX6_rideAgain_17 : decode cX6_rideAgain 17 = .ok (.aload_n 0, 1) := by decide +kernel
theorem dX6_rideAgain_18 : decode cX6_rideAgain 18 = .ok (.aload_n 1, 1) := by decide +kernel
theorem dX6_rideAgain_19 : decode cX6_rideAgain 19 = .ok (.getfield 160, 3) := by decide +kernel
theorem dX6_rideAgain_22 : decode cX6_rideAgain 22 = .ok (.invokevirtual 129, 3) := by decide +kernel
theorem dX6_rideAgain_25 : decode cX6_rideAgain 25 = .ok (.invokevirtual 185, 3) := by decide +kernel
theorem dX6_rideAgain_28 : decode cX6_rideAgain 28 = .ok (.return_, 1) := by decide +kernel
theorem dX6_isWithin_0 : decode cX6_isWithin 0 = .ok (.iload_n 0, 1) := by decide +kernel
theorem dX6_isWithin_1 : decode cX6_isWithin 1 = .ok (.iload_n 1, 1) := by decide +kernel
theorem dX6_isWithin_2 : decode cX6_isWithin 2 = .ok (.if_icmp .lt 12, 3) := by decide +kernel
theorem dX6_isWithin_5 : decode cX6_isWithin 5 = .ok (.iload_n 0, 1) := by decide +kernel
theorem dX6_isWithin_6 : decode cX6_isWithin 6 = .ok (.iload_n 2, 1) := by decide +kernel
theorem dX6_isWithin_7 : decode cX6_isWithin 7 = .ok (.if_icmp .gt 7, 3) := by decide +kernel
theorem dX6_isWithin_10 : decode cX6_isWithin 10 = .ok (.iconst 1, 1) := by decide +kernel
theorem dX6_isWithin_11 : decode cX6_isWithin 11 = .ok (.goto 4, 3) := by decide +kernel
theorem dX6_isWithin_14 : decode cX6_isWithin 14 = .ok (.iconst 0, 1) := by decide +kernel
theorem dX6_isWithin_15 : decode cX6_isWithin 15 = .ok (.ireturn, 1) := by decide +kernel
theorem dX6_trackNumbered_0 : decode cX6_trackNumbered 0 = .ok (.iload_n 1, 1) := by decide +kernel
theorem dX6_trackNumbered_1 : decode cX6_trackNumbered 1 = .ok (.ifCond .lt 11, 3) := by decide +kernel
theorem dX6_trackNumbered_4 : decode cX6_trackNumbered 4 = .ok (.iload_n 1, 1) := by decide +kernel
theorem dX6_trackNumbered_5 : decode cX6_trackNumbered 5 = .ok (.aload_n 0, 1) := by decide +kernel
theorem dX6_trackNumbered_6 : decode cX6_trackNumbered 6 = .ok (.getfield 48, 3) := by decide +kernel
theorem dX6_trackNumbered_9 : decode cX6_trackNumbered 9 = .ok (.if_icmp .lt 14, 3) := by decide +kernel
theorem dX6_trackNumbered_12 : decode cX6_trackNumbered 12 = .ok (.new 289, 3) := by decide +kernel
theorem dX6_trackNumbered_15 : decode cX6_trackNumbered 15 = .ok (.dup, 1) := by decide +kernel
theorem dX6_trackNumbered_16 : decode cX6_trackNumbered 16 = .ok (.ldc_w 333, 3) := by decide +kernel
theorem dX6_trackNumbered_19 : decode cX6_trackNumbered 19 = .ok (.invokespecial 293, 3) := by decide +kernel
theorem dX6_trackNumbered_22 : decode cX6_trackNumbered 22 = .ok (.athrow, 1) := by decide +kernel
theorem dX6_trackNumbered_23 : decode cX6_trackNumbered 23 = .ok (.aload_n 0, 1) := by decide +kernel
theorem dX6_trackNumbered_24 : decode cX6_trackNumbered 24 = .ok (.getfield 11, 3) := by decide +kernel
theorem dX6_trackNumbered_27 : decode cX6_trackNumbered 27 = .ok (.iload_n 1, 1) := by decide +kernel
theorem dX6_trackNumbered_28 : decode cX6_trackNumbered 28 = .ok (.aaload, 1) := by decide +kernel
theorem dX6_trackNumbered_29 : decode cX6_trackNumbered 29 = .ok (.areturn, 1) := by decide +kernel
theorem dX6_carNumbered_0 : decode cX6_carNumbered 0 = .ok (.iload_n 1, 1) := by decide +kernel
theorem dX6_carNumbered_1 : decode cX6_carNumbered 1 = .ok (.ifCond .lt 11, 3) := by decide +kernel
theorem dX6_carNumbered_4 : decode cX6_carNumbered 4 = .ok (.iload_n 1, 1) := by decide +kernel
theorem dX6_carNumbered_5 : decode cX6_carNumbered 5 = .ok (.aload_n 0, 1) := by decide +kernel
theorem dX6_carNumbered_6 : decode cX6_carNumbered 6 = .ok (.getfield 95, 3) := by decide +kernel
theorem dX6_carNumbered_9 : decode cX6_carNumbered 9 = .ok (.if_icmp .lt 14, 3) := by decide +kernel
theorem dX6_carNumbered_12 : decode cX6_carNumbered 12 = .ok (.new 289, 3) := by decide +kernel
theorem dX6_carNumbered_15 : decode cX6_carNumbered 15 = .ok (.dup, 1) := by decide +kernel
theorem dX6_carNumbered_16 : decode cX6_carNumbered 16 = .ok (.ldc_w 335, 3) := by decide +kernel
theorem dX6_carNumbered_19 : decode cX6_carNumbered 19 = .ok (.invokespecial 293, 3) := by decide +kernel
theorem dX6_carNumbered_22 : decode cX6_carNumbered 22 = .ok (.athrow, 1) := by decide +kernel
theorem dX6_carNumbered_23 : decode cX6_carNumbered 23 = .ok (.aload_n 0, 1) := by decide +kernel
theorem dX6_carNumbered_24 : decode cX6_carNumbered 24 = .ok (.getfield 17, 3) := by decide +kernel
theorem dX6_carNumbered_27 : decode cX6_carNumbered 27 = .ok (.iload_n 1, 1) := by decide +kernel
theorem dX6_carNumbered_28 : decode cX6_carNumbered 28 = .ok (.aaload, 1) := by decide +kernel
theorem dX6_carNumbered_29 : decode cX6_carNumbered 29 = .ok (.areturn, 1) := by decide +kernel
theorem dX6_lapNumbered_0 : decode cX6_lapNumbered 0 = .ok (.aload_n 0, 1) := by decide +kernel
theorem dX6_lapNumbered_1 : decode cX6_lapNumbered 1 = .ok (.getfield 35, 3) := by decide +kernel
theorem dX6_lapNumbered_4 : decode cX6_lapNumbered 4 = .ok (.iload_n 1, 1) := by decide +kernel
theorem dX6_lapNumbered_5 : decode cX6_lapNumbered 5 = .ok (.invokevirtual 225, 3) := by decide +kernel
theorem dX6_lapNumbered_8 : decode cX6_lapNumbered 8 = .ok (.ifCond .ne 14, 3) := by decide +kernel
theorem dX6_lapNumbered_11 : decode cX6_lapNumbered 11 = .ok (.new 289, 3) := by decide +kernel
theorem dX6_lapNumbered_14 : decode cX6_lapNumbered 14 = .ok (.dup, 1) := by decide +kernel
theorem dX6_lapNumbered_15 : decode cX6_lapNumbered 15 = .ok (.ldc_w 337, 3) := by decide +kernel
theorem dX6_lapNumbered_18 : decode cX6_lapNumbered 18 = .ok (.invokespecial 293, 3) := by decide +kernel
theorem dX6_lapNumbered_21 : decode cX6_lapNumbered 21 = .ok (.athrow, 1) := by decide +kernel
theorem dX6_lapNumbered_22 : decode cX6_lapNumbered 22 = .ok (.aload_n 0, 1) := by decide +kernel
theorem dX6_lapNumbered_23 : decode cX6_lapNumbered 23 = .ok (.getfield 35, 3) := by decide +kernel
theorem dX6_lapNumbered_26 : decode cX6_lapNumbered 26 = .ok (.getfield 148, 3) := by decide +kernel
theorem dX6_lapNumbered_29 : decode cX6_lapNumbered 29 = .ok (.iload_n 1, 1) := by decide +kernel
theorem dX6_lapNumbered_30 : decode cX6_lapNumbered 30 = .ok (.aaload, 1) := by decide +kernel
theorem dX6_lapNumbered_31 : decode cX6_lapNumbered 31 = .ok (.areturn, 1) := by decide +kernel
theorem dX6_requireDriver_0 : decode cX6_requireDriver 0 = .ok (.iload_n 1, 1) := by decide +kernel
theorem dX6_requireDriver_1 : decode cX6_requireDriver 1 = .ok (.ifCond .lt 9, 3) := by decide +kernel
theorem dX6_requireDriver_4 : decode cX6_requireDriver 4 = .ok (.iload_n 1, 1) := by decide +kernel
theorem dX6_requireDriver_5 : decode cX6_requireDriver 5 = .ok (.bipush 6, 2) := by decide +kernel
theorem dX6_requireDriver_7 : decode cX6_requireDriver 7 = .ok (.if_icmp .lt 14, 3) := by decide +kernel
theorem dX6_requireDriver_10 : decode cX6_requireDriver 10 = .ok (.new 289, 3) := by decide +kernel
theorem dX6_requireDriver_13 : decode cX6_requireDriver 13 = .ok (.dup, 1) := by decide +kernel
theorem dX6_requireDriver_14 : decode cX6_requireDriver 14 = .ok (.ldc_w 339, 3) := by decide +kernel
theorem dX6_requireDriver_17 : decode cX6_requireDriver 17 = .ok (.invokespecial 293, 3) := by decide +kernel
theorem dX6_requireDriver_20 : decode cX6_requireDriver 20 = .ok (.athrow, 1) := by decide +kernel
theorem dX6_requireDriver_21 : decode cX6_requireDriver 21 = .ok (.return_, 1) := by decide +kernel
theorem dJ9_max_7cf53_0 : decode cJ9_max_7cf53 0 = .ok (.iload_n 0, 1) := by decide +kernel
theorem dJ9_max_7cf53_1 : decode cJ9_max_7cf53 1 = .ok (.iload_n 1, 1) := by decide +kernel
theorem dJ9_max_7cf53_2 : decode cJ9_max_7cf53 2 = .ok (.if_icmp .lt 7, 3) := by decide +kernel
theorem dJ9_max_7cf53_5 : decode cJ9_max_7cf53 5 = .ok (.iload_n 0, 1) := by decide +kernel
theorem dJ9_max_7cf53_6 : decode cJ9_max_7cf53 6 = .ok (.goto 4, 3) := by decide +kernel
theorem dJ9_max_7cf53_9 : decode cJ9_max_7cf53 9 = .ok (.iload_n 1, 1) := by decide +kernel
theorem dJ9_max_7cf53_10 : decode cJ9_max_7cf53 10 = .ok (.ireturn, 1) := by decide +kernel
theorem dJ9_min_7cf53_0 : decode cJ9_min_7cf53 0 = .ok (.iload_n 0, 1) := by decide +kernel
theorem dJ9_min_7cf53_1 : decode cJ9_min_7cf53 1 = .ok (.iload_n 1, 1) := by decide +kernel
theorem dJ9_min_7cf53_2 : decode cJ9_min_7cf53 2 = .ok (.if_icmp .gt 7, 3) := by decide +kernel
theorem dJ9_min_7cf53_5 : decode cJ9_min_7cf53 5 = .ok (.iload_n 0, 1) := by decide +kernel
theorem dJ9_min_7cf53_6 : decode cJ9_min_7cf53 6 = .ok (.goto 4, 3) := by decide +kernel
theorem dJ9_min_7cf53_9 : decode cJ9_min_7cf53 9 = .ok (.iload_n 1, 1) := by decide +kernel
theorem dJ9_min_7cf53_10 : decode cJ9_min_7cf53 10 = .ok (.ireturn, 1) := by decide +kernel
end
section
theorem dX7_init_0 : decode cX7_init 0 = .ok (.aload_n 0, 1) := by decide +kernel
theorem dX7_init_1 : decode cX7_init 1 = .ok (.invokespecial 1, 3) := by decide +kernel
theorem dX7_init_4 : decode cX7_init 4 = .ok (.aload_n 0, 1) := by decide +kernel
theorem dX7_init_5 : decode cX7_init 5 = .ok (.iconst 4, 1) := by decide +kernel
theorem dX7_init_6 : decode cX7_init 6 = .ok (.newarray .int, 2) := by decide +kernel
theorem dX7_init_8 : decode cX7_init 8 = .ok (.putfield 7, 3) := by decide +kernel
theorem dX7_init_11 : decode cX7_init 11 = .ok (.aload_n 0, 1) := by decide +kernel
theorem dX7_init_12 : decode cX7_init 12 = .ok (.bipush 48, 2) := by decide +kernel
theorem dX7_init_14 : decode cX7_init 14 = .ok (.newarray .int, 2) := by decide +kernel
theorem dX7_init_16 : decode cX7_init 16 = .ok (.putfield 13, 3) := by decide +kernel
theorem dX7_init_19 : decode cX7_init 19 = .ok (.aload_n 0, 1) := by decide +kernel
theorem dX7_init_20 : decode cX7_init 20 = .ok (.bipush 48, 2) := by decide +kernel
theorem dX7_init_22 : decode cX7_init 22 = .ok (.newarray .int, 2) := by decide +kernel
theorem dX7_init_24 : decode cX7_init 24 = .ok (.putfield 16, 3) := by decide +kernel
theorem dX7_init_27 : decode cX7_init 27 = .ok (.aload_n 0, 1) := by decide +kernel
theorem dX7_init_28 : decode cX7_init 28 = .ok (.iconst 4, 1) := by decide +kernel
theorem dX7_init_29 : decode cX7_init 29 = .ok (.newarray .int, 2) := by decide +kernel
theorem dX7_init_31 : decode cX7_init 31 = .ok (.putfield 19, 3) := by decide +kernel
theorem dX7_init_34 : decode cX7_init 34 = .ok (.aload_n 0, 1) := by decide +kernel
theorem dX7_init_35 : decode cX7_init 35 = .ok (.iconst 4, 1) := by decide +kernel
theorem dX7_init_36 : decode cX7_init 36 = .ok (.newarray .int, 2) := by decide +kernel
theorem dX7_init_38 : decode cX7_init 38 = .ok (.putfield 22, 3) := by decide +kernel
theorem dX7_init_41 : decode cX7_init 41 = .ok (.aload_n 0, 1) := by decide +kernel
theorem dX7_init_42 : decode cX7_init 42 = .ok (.iconst 4, 1) := by decide +kernel
theorem dX7_init_43 : decode cX7_init 43 = .ok (.newarray .int, 2) := by decide +kernel
theorem dX7_init_45 : decode cX7_init 45 = .ok (.putfield 25, 3) := by decide +kernel
theorem dX7_init_48 : decode cX7_init 48 = .ok (.aload_n 0, 1) := by decide +kernel
theorem dX7_init_49 : decode cX7_init 49 = .ok (.bipush 60, 2) := by decide +kernel
theorem dX7_init_51 : decode cX7_init 51 = .ok (.newarray .char, 2) := by decide +kernel
theorem dX7_init_53 : decode cX7_init 53 = .ok (.putfield 28, 3) := by decide +kernel
theorem dX7_init_56 : decode cX7_init 56 = .ok (.aload_n 0, 1) := by decide +kernel
theorem dX7_init_57 : decode cX7_init 57 = .ok (.sipush 1800, 3) := by decide +kernel
theorem dX7_init_60 : decode cX7_init 60 = .ok (.newarray .char, 2) := by decide +kernel
theorem dX7_init_62 : decode cX7_init 62 = .ok (.putfield 32, 3) := by decide +kernel
theorem dX7_init_65 : decode cX7_init 65 = .ok (.aload_n 0, 1) := by decide +kernel
theorem dX7_init_66 : decode cX7_init 66 = .ok (.bipush 30, 2) := by decide +kernel
theorem dX7_init_68 : decode cX7_init 68 = .ok (.newarray .int, 2) := by decide +kernel
theorem dX7_init_70 : decode cX7_init 70 = .ok (.putfield 35, 3) := by decide +kernel
theorem dX7_init_73 : decode cX7_init 73 = .ok (.aload_n 0, 1) := by decide +kernel
theorem dX7_init_74 : decode cX7_init 74 = .ok (.bipush 30, 2) := by decide +kernel
theorem dX7_init_76 : decode cX7_init 76 = .ok (.newarray .int, 2) := by decide +kernel
theorem dX7_init_78 : decode cX7_init 78 = .ok (.putfield 38, 3) := by decide +kernel
theorem dX7_init_81 : decode cX7_init 81 = .ok (.aload_n 0, 1) := by decide +kernel
theorem dX7_init_82 : decode cX7_init 82 = .ok (.bipush 30, 2) := by decide +kernel
theorem dX7_init_84 : decode cX7_init 84 = .ok (.newarray .int, 2) := by decide +kernel
theorem dX7_init_86 : decode cX7_init 86 = .ok (.putfield 41, 3) := by decide +kernel
theorem dX7_init_89 : decode cX7_init 89 = .ok (.aload_n 0, 1) := by decide +kernel
theorem dX7_init_90 : decode cX7_init 90 = .ok (.bipush 30, 2) := by decide +kernel
theorem dX7_init_92 : decode cX7_init 92 = .ok (.newarray .int, 2) := by decide +kernel
theorem dX7_init_94 : decode cX7_init 94 = .ok (.putfield 44, 3) := by decide +kernel
theorem dX7_init_97 : decode cX7_init 97 = .ok (.aload_n 0, 1) := by decide +kernel
theorem dX7_init_98 : decode cX7_init 98 = .ok (.bipush 30, 2) := by decide +kernel
theorem dX7_init_100 : decode cX7_init 100 = .ok (.newarray .int, 2) := by decide +kernel
theorem dX7_init_102 : decode cX7_init 102 = .ok (.putfield 47, 3) := by decide +kernel
theorem dX7_init_105 : decode cX7_init 105 = .ok (.aload_n 0, 1) := by decide +kernel
theorem dX7_init_106 : decode cX7_init 106 = .ok (.bipush 30, 2) := by decide +kernel
theorem dX7_init_108 : decode cX7_init 108 = .ok (.newarray .int, 2) := by decide +kernel
theorem dX7_init_110 : decode cX7_init 110 = .ok (.putfield 50, 3) := by decide +kernel
theorem dX7_init_113 : decode cX7_init 113 = .ok (.aload_n 0, 1) := by decide +kernel
theorem dX7_init_114 : decode cX7_init 114 = .ok (.bipush 30, 2) := by decide +kernel
theorem dX7_init_116 : decode cX7_init 116 = .ok (.newarray .int, 2) := by decide +kernel
theorem dX7_init_118 : decode cX7_init 118 = .ok (.putfield 53, 3) := by decide +kernel
theorem dX7_init_121 : decode cX7_init 121 = .ok (.aload_n 0, 1) := by decide +kernel
theorem dX7_init_122 : decode cX7_init 122 = .ok (.bipush 30, 2) := by decide +kernel
theorem dX7_init_124 : decode cX7_init 124 = .ok (.newarray .int, 2) := by decide +kernel
theorem dX7_init_126 : decode cX7_init 126 = .ok (.putfield 56, 3) := by decide +kernel
theorem dX7_init_129 : decode cX7_init 129 = .ok (.aload_n 0, 1) := by decide +kernel
theorem dX7_init_130 : decode cX7_init 130 = .ok (.bipush 30, 2) := by decide +kernel
theorem dX7_init_132 : decode cX7_init 132 = .ok (.newarray .int, 2) := by decide +kernel
theorem dX7_init_134 : decode cX7_init 134 = .ok (.putfield 59, 3) := by decide +kernel
theorem dX7_init_137 : decode cX7_init 137 = .ok (.aload_n 0, 1) := by decide +kernel
theorem dX7_init_138 : decode cX7_init 138 = .ok (.bipush 30, 2) := by decide +kernel
theorem dX7_init_140 : decode cX7_init 140 = .ok (.newarray .boolean, 2) := by decide +kernel
theorem dX7_init_142 : decode cX7_init 142 = .ok (.putfield 62, 3) := by decide +kernel
theorem dX7_init_145 : decode cX7_init 145 = .ok (.aload_n 0, 1) := by decide +kernel
theorem dX7_init_146 : decode cX7_init 146 = .ok (.bipush 10, 2) := by decide +kernel
theorem dX7_init_148 : decode cX7_init 148 = .ok (.newarray .int, 2) := by decide +kernel
theorem dX7_init_150 : decode cX7_init 150 = .ok (.putfield 66, 3) := by decide +kernel
theorem dX7_init_153 : decode cX7_init 153 = .ok (.aload_n 0, 1) := by decide +kernel
theorem dX7_init_154 : decode cX7_init 154 = .ok (.bipush 10, 2) := by decide +kernel
theorem dX7_init_156 : decode cX7_init 156 = .ok (.newarray .int, 2) := by decide +kernel
theorem dX7_init_158 : decode cX7_init 158 = .ok (.putfield 69, 3) := by decide +kernel
theorem dX7_init_161 : decode cX7_init 161 = .ok (.return_, 1) := by decide +kernel
theorem dX7_thrown_0 : decode cX7_thrown 0 = .ok (.aload_n 0, 1) := by decide +kernel
theorem dX7_thrown_1 : decode cX7_thrown 1 = .ok (.getfield 72, 3) := by decide +kernel
theorem dX7_thrown_4 : decode cX7_thrown 4 = .ok (.ireturn, 1) := by decide +kernel
theorem dX7_fails_0 : decode cX7_fails 0 = .ok (.aload_n 0, 1) := by decide +kernel
theorem dX7_fails_1 : decode cX7_fails 1 = .ok (.iload_n 1, 1) := by decide +kernel
theorem dX7_fails_2 : decode cX7_fails 2 = .ok (.putfield 72, 3) := by decide +kernel
theorem dX7_fails_5 : decode cX7_fails 5 = .ok (.iload_n 1, 1) := by decide +kernel
theorem dX7_fails_6 : decode cX7_fails 6 = .ok (.ifCond .le 7, 3) := by decide +kernel
theorem dX7_fails_9 : decode cX7_fails 9 = .ok (.iconst 1, 1) := by decide +kernel
theorem dX7_fails_10 : decode cX7_fails 10 = .ok (.goto 4, 3) := by decide +kernel
theorem dX7_fails_13 : decode cX7_fails 13 = .ok (.iconst 0, 1) := by decide +kernel
theorem dX7_fails_14 : decode cX7_fails 14 = .ok (.ireturn, 1) := by decide +kernel
theorem dX7_in_0 : decode cX7_in 0 = .ok (.iload_n 0, 1) := by decide +kernel
theorem dX7_in_1 : decode cX7_in 1 = .ok (.iload_n 1, 1) := by decide +kernel
theorem dX7_in_2 : decode cX7_in 2 = .ok (.if_icmp .lt 12, 3) := by decide +kernel
theorem dX7_in_5 : decode cX7_in 5 = .ok (.iload_n 0, 1) := by decide +kernel
theorem dX7_in_6 : decode cX7_in 6 = .ok (.iload_n 2, 1) := by decide +kernel
theorem dX7_in_7 : decode cX7_in 7 = .ok (.if_icmp .gt 7, 3) := by decide +kernel
theorem dX7_in_10 : decode cX7_in 10 = .ok (.iconst 1, 1) := by decide +kernel
theorem dX7_in_11 : decode cX7_in 11 = .ok (.goto 4, 3) := by decide +kernel
theorem dX7_in_14 : decode cX7_in 14 = .ok (.iconst 0, 1) := by decide +kernel
theorem dX7_in_15 : decode cX7_in 15 = .ok (.ireturn, 1) := by decide +kernel
theorem dX7_isNoTrack_0 : decode cX7_isNoTrack 0 = .ok (.iload_n 1, 1) := by decide +kernel
theorem dX7_isNoTrack_1 : decode cX7_isNoTrack 1 = .ok (.iconst 0, 1) := by decide +kernel
theorem dX7_isNoTrack_2 : decode cX7_isNoTrack 2 = .ok (.aload_n 0, 1) := by decide +kernel
theorem dX7_isNoTrack_3 : decode cX7_isNoTrack 3 = .ok (.getfield 76, 3) := by decide +kernel
theorem dX7_isNoTrack_6 : decode cX7_isNoTrack 6 = .ok (.iconst 1, 1) := by decide +kernel
theorem dX7_isNoTrack_7 : decode cX7_isNoTrack 7 = .ok (.isub, 1) := by decide +kernel
theorem dX7_isNoTrack_8 : decode cX7_isNoTrack 8 = .ok (.invokestatic 79, 3) := by decide +kernel
theorem dX7_isNoTrack_11 : decode cX7_isNoTrack 11 = .ok (.ifCond .ne 7, 3) := by decide +kernel
theorem dX7_isNoTrack_14 : decode cX7_isNoTrack 14 = .ok (.iconst 1, 1) := by decide +kernel
theorem dX7_isNoTrack_15 : decode cX7_isNoTrack 15 = .ok (.goto 4, 3) := by decide +kernel
theorem dX7_isNoTrack_18 : decode cX7_isNoTrack 18 = .ok (.iconst 0, 1) := by decide +kernel
theorem dX7_isNoTrack_19 : decode cX7_isNoTrack 19 = .ok (.ireturn, 1) := by decide +kernel
theorem dX7_isNoCar_0 : decode cX7_isNoCar 0 = .ok (.iload_n 1, 1) := by decide +kernel
theorem dX7_isNoCar_1 : decode cX7_isNoCar 1 = .ok (.iconst 0, 1) := by decide +kernel
theorem dX7_isNoCar_2 : decode cX7_isNoCar 2 = .ok (.aload_n 0, 1) := by decide +kernel
theorem dX7_isNoCar_3 : decode cX7_isNoCar 3 = .ok (.getfield 83, 3) := by decide +kernel
theorem dX7_isNoCar_6 : decode cX7_isNoCar 6 = .ok (.iconst 1, 1) := by decide +kernel
theorem dX7_isNoCar_7 : decode cX7_isNoCar 7 = .ok (.isub, 1) := by decide +kernel
theorem dX7_isNoCar_8 : decode cX7_isNoCar 8 = .ok (.invokestatic 79, 3) := by decide +kernel
theorem dX7_isNoCar_11 : decode cX7_isNoCar 11 = .ok (.ifCond .ne 7, 3) := by decide +kernel
theorem dX7_isNoCar_14 : decode cX7_isNoCar 14 = .ok (.iconst 1, 1) := by decide +kernel
theorem dX7_isNoCar_15 : decode cX7_isNoCar 15 = .ok (.goto 4, 3) := by decide +kernel
theorem dX7_isNoCar_18 : decode cX7_isNoCar 18 = .ok (.iconst 0, 1) := by decide +kernel
theorem dX7_isNoCar_19 : decode cX7_isNoCar 19 = .ok (.ireturn, 1) := by decide +kernel
theorem dX7_isNoLap_0 : decode cX7_isNoLap 0 = .ok (.iload_n 1, 1) := by decide +kernel
theorem dX7_isNoLap_1 : decode cX7_isNoLap 1 = .ok (.iconst 0, 1) := by decide +kernel
theorem dX7_isNoLap_2 : decode cX7_isNoLap 2 = .ok (.aload_n 0, 1) := by decide +kernel
theorem dX7_isNoLap_3 : decode cX7_isNoLap 3 = .ok (.getfield 86, 3) := by decide +kernel
theorem dX7_isNoLap_6 : decode cX7_isNoLap 6 = .ok (.iconst 1, 1) := by decide +kernel
theorem dX7_isNoLap_7 : decode cX7_isNoLap 7 = .ok (.isub, 1) := by decide +kernel
theorem dX7_isNoLap_8 : decode cX7_isNoLap 8 = .ok (.invokestatic 79, 3) := by decide +kernel
theorem dX7_isNoLap_11 : decode cX7_isNoLap 11 = .ok (.ifCond .ne 7, 3) := by decide +kernel
theorem dX7_isNoLap_14 : decode cX7_isNoLap 14 = .ok (.iconst 1, 1) := by decide +kernel
theorem dX7_isNoLap_15 : decode cX7_isNoLap 15 = .ok (.goto 4, 3) := by decide +kernel
theorem dX7_isNoLap_18 : decode cX7_isNoLap 18 = .ok (.iconst 0, 1) := by decide +kernel
theorem dX7_isNoLap_19 : decode cX7_isNoLap 19 = .ok (.ireturn, 1) := by decide +kernel
theorem dX7_track_0 : decode cX7_track 0 = .ok (.aload_n 0, 1) := by decide +kernel
theorem dX7_track_1 : decode cX7_track 1 = .ok (.aload_n 0, 1) := by decide +kernel
theorem dX7_track_2 : decode cX7_track 2 = .ok (.getfield 76, 3) := by decide +kernel
theorem dX7_track_5 : decode cX7_track 5 = .ok (.iconst 4, 1) := by decide +kernel
theorem dX7_track_6 : decode cX7_track 6 = .ok (.if_icmp .ne 7, 3) := by decide +kernel
theorem dX7_track_9 : decode cX7_track 9 = .ok (.iconst 1, 1) := by decide +kernel
theorem dX7_track_10 : decode cX7_track 10 = .ok (.goto 4, 3) := by decide +kernel
theorem dX7_track_13 : decode cX7_track 13 = .ok (.iconst 0, 1) := by decide +kernel
theorem dX7_track_14 : decode cX7_track 14 = .ok (.invokevirtual 89, 3) := by decide +kernel
theorem dX7_track_17 : decode cX7_track 17 = .ok (.ifCond .eq 5, 3) := by decide +kernel
theorem dX7_track_20 : decode cX7_track 20 = .ok (.iconst 0, 1) := by decide +kernel
theorem dX7_track_21 : decode cX7_track 21 = .ok (.ireturn, 1) := by decide +kernel
theorem dX7_track_22 : decode cX7_track 22 = .ok (.aload_n 0, 1) := by decide +kernel
theorem dX7_track_23 : decode cX7_track 23 = .ok (.dup, 1) := by decide +kernel
theorem dX7_track_24 : decode cX7_track 24 = .ok (.getfield 76, 3) := by decide +kernel
theorem dX7_track_27 : decode cX7_track 27 = .ok (.iconst 1, 1) := by decide +kernel
theorem dX7_track_28 : decode cX7_track 28 = .ok (.iadd, 1) := by decide +kernel
theorem dX7_track_29 : decode cX7_track 29 = .ok (.putfield 76, 3) := by decide +kernel
theorem dX7_track_32 : decode cX7_track 32 = .ok (.aload_n 0, 1) := by decide +kernel
theorem dX7_track_33 : decode cX7_track 33 = .ok (.getfield 76, 3) := by decide +kernel
theorem dX7_track_36 : decode cX7_track 36 = .ok (.iconst 1, 1) := by decide +kernel
theorem dX7_track_37 : decode cX7_track 37 = .ok (.isub, 1) := by decide +kernel
theorem dX7_track_38 : decode cX7_track 38 = .ok (.ireturn, 1) := by decide +kernel
theorem dX7_lengthNow_0 : decode cX7_lengthNow 0 = .ok (.iconst 0, 1) := by decide +kernel
theorem dX7_lengthNow_1 : decode cX7_lengthNow 1 = .ok (.istore_n 2, 1) := by decide +kernel
theorem dX7_lengthNow_2 : decode cX7_lengthNow 2 = .ok (.iconst 0, 1) := by decide +kernel
theorem dX7_lengthNow_3 : decode cX7_lengthNow 3 = .ok (.istore_n 3, 1) := by decide +kernel
theorem dX7_lengthNow_4 : decode cX7_lengthNow 4 = .ok (.iload_n 3, 1) := by decide +kernel
theorem dX7_lengthNow_5 : decode cX7_lengthNow 5 = .ok (.aload_n 0, 1) := by decide +kernel
theorem dX7_lengthNow_6 : decode cX7_lengthNow 6 = .ok (.getfield 7, 3) := by decide +kernel
theorem dX7_lengthNow_9 : decode cX7_lengthNow 9 = .ok (.iload_n 1, 1) := by decide +kernel
theorem dX7_lengthNow_10 : decode cX7_lengthNow 10 = .ok (.iaload, 1) := by decide +kernel
theorem dX7_lengthNow_11 : decode cX7_lengthNow 11 = .ok (.if_icmp .ge 23, 3) := by decide +kernel
theorem dX7_lengthNow_14 : decode cX7_lengthNow 14 = .ok (.iload_n 2, 1) := by decide +kernel
theorem dX7_lengthNow_15 : decode cX7_lengthNow 15 = .ok (.aload_n 0, 1) := by decide +kernel
theorem dX7_lengthNow_16 : decode cX7_lengthNow 16 = .ok (.getfield 13, 3) := by decide +kernel
theorem dX7_lengthNow_19 : decode cX7_lengthNow 19 = .ok (.bipush 12, 2) := by decide +kernel
theorem dX7_lengthNow_21 : decode cX7_lengthNow 21 = .ok (.iload_n 1, 1) := by decide +kernel
theorem dX7_lengthNow_22 : decode cX7_lengthNow 22 = .ok (.imul, 1) := by decide +kernel
theorem dX7_lengthNow_23 : decode cX7_lengthNow 23 = .ok (.iload_n 3, 1) := by decide +kernel
theorem dX7_lengthNow_24 : decode cX7_lengthNow 24 = .ok (.iadd, 1) := by decide +kernel
theorem dX7_lengthNow_25 : decode cX7_lengthNow 25 = .ok (.iaload, 1) := by decide +kernel
theorem dX7_lengthNow_26 : decode cX7_lengthNow 26 = .ok (.iadd, 1) := by decide +kernel
theorem dX7_lengthNow_27 : decode cX7_lengthNow 27 = .ok (.istore_n 2, 1) := by decide +kernel
theorem dX7_lengthNow_28 : decode cX7_lengthNow 28 = .ok (.iinc 3 1, 3) := by decide +kernel
theorem dX7_lengthNow_31 : decode cX7_lengthNow 31 = .ok (.goto (-27), 3) := by decide +kernel
theorem dX7_lengthNow_34 : decode cX7_lengthNow 34 = .ok (.iload_n 2, 1) := by decide +kernel
theorem dX7_lengthNow_35 : decode cX7_lengthNow 35 = .ok (.ireturn, 1) := by decide +kernel
theorem dX7_stretch_0 : decode cX7_stretch 0 = .ok (.iconst 0, 1) := by decide +kernel
theorem dX7_stretch_1 : decode cX7_stretch 1 = .ok (.istore 4, 2) := by decide +kernel
theorem dX7_stretch_3 : decode cX7_stretch 3 = .ok (.iconst 0, 1) := by decide +kernel
theorem dX7_stretch_4 : decode cX7_stretch 4 = .ok (.istore 5, 2) := by decide +kernel
theorem dX7_stretch_6 : decode cX7_stretch 6 = .ok (.iload 5, 2) := by decide +kernel
theorem dX7_stretch_8 : decode cX7_stretch 8 = .ok (.aload_n 0, 1) := by decide +kernel
theorem dX7_stretch_9 : decode cX7_stretch 9 = .ok (.getfield 86, 3) := by decide +kernel
theorem dX7_stretch_12 : decode cX7_stretch 12 = .ok (.if_icmp .ge 30, 3) := by decide +kernel
theorem dX7_stretch_15 : decode cX7_stretch 15 = .ok (.iload 4, 2) := by decide +kernel
theorem dX7_stretch_17 : decode cX7_stretch 17 = .ok (.aload_n 0, 1) := by decide +kernel
theorem dX7_stretch_18 : decode cX7_stretch 18 = .ok (.getfield 47, 3) := by decide +kernel
theorem dX7_stretch_21 : decode cX7_stretch 21 = .ok (.iload 5, 2) := by decide +kernel
theorem dX7_stretch_23 : decode cX7_stretch 23 = .ok (.iaload, 1) := by decide +kernel
theorem dX7_stretch_24 : decode cX7_stretch 24 = .ok (.iload_n 1, 1) := by decide +kernel
theorem dX7_stretch_25 : decode cX7_stretch 25 = .ok (.if_icmp .ne 7, 3) := by decide +kernel
theorem dX7_stretch_28 : decode cX7_stretch 28 = .ok (.iconst 1, 1) := by decide +kernel
theorem dX7_stretch_29 : decode cX7_stretch 29 = .ok (.goto 4, 3) := by decide +kernel
theorem dX7_stretch_32 : decode cX7_stretch 32 = .ok (.iconst 0, 1) := by decide +kernel
theorem dX7_stretch_33 : decode cX7_stretch 33 = .ok (.ior, 1) := by decide +kernel
theorem dX7_stretch_34 : decode cX7_stretch 34 = .ok (.istore 4, 2) := by decide +kernel
theorem dX7_stretch_36 : decode cX7_stretch 36 = .ok (.iinc 5 1, 3) := by decide +kernel
theorem dX7_stretch_39 : decode cX7_stretch 39 = .ok (.goto (-33), 3) := by decide +kernel
theorem dX7_stretch_42 : decode cX7_stretch 42 = .ok (.aload_n 0, 1) := by decide +kernel
theorem dX7_stretch_43 : decode cX7_stretch 43 = .ok (.iload_n 1, 1) := by decide +kernel
theorem dX7_stretch_44 : decode cX7_stretch 44 = .ok (.invokevirtual 93, 3) := by decide +kernel
theorem dX7_stretch_47 : decode cX7_stretch 47 = .ok (.ifCond .eq 7, 3) := by decide +kernel
theorem dX7_stretch_50 : decode cX7_stretch 50 = .ok (.iconst 1, 1) := by decide +kernel
theorem dX7_stretch_51 : decode cX7_stretch 51 = .ok (.goto 52, 3) := by decide +kernel
theorem dX7_stretch_54 : decode cX7_stretch 54 = .ok (.iload_n 2, 1) := by decide +kernel
theorem dX7_stretch_55 : decode cX7_stretch 55 = .ok (.iconst 1, 1) := by decide +kernel
theorem dX7_stretch_56 : decode cX7_stretch 56 = .ok (.bipush 30, 2) := by decide +kernel
theorem dX7_stretch_58 : decode cX7_stretch 58 = .ok (.invokestatic 79, 3) := by decide +kernel
theorem dX7_stretch_61 : decode cX7_stretch 61 = .ok (.ifCond .eq 13, 3) := by decide +kernel
theorem dX7_stretch_64 : decode cX7_stretch 64 = .ok (.iload_n 3, 1) := by decide +kernel
theorem dX7_stretch_65 : decode cX7_stretch 65 = .ok (.iconst 1, 1) := by decide +kernel
theorem dX7_stretch_66 : decode cX7_stretch 66 = .ok (.bipush 9, 2) := by decide +kernel
theorem dX7_stretch_68 : decode cX7_stretch 68 = .ok (.invokestatic 79, 3) := by decide +kernel
theorem dX7_stretch_71 : decode cX7_stretch 71 = .ok (.ifCond .ne 7, 3) := by decide +kernel
theorem dX7_stretch_74 : decode cX7_stretch 74 = .ok (.iconst 2, 1) := by decide +kernel
theorem dX7_stretch_75 : decode cX7_stretch 75 = .ok (.goto 28, 3) := by decide +kernel
theorem dX7_stretch_78 : decode cX7_stretch 78 = .ok (.iload 4, 2) := by decide +kernel
theorem dX7_stretch_80 : decode cX7_stretch 80 = .ok (.ifCond .eq 7, 3) := by decide +kernel
theorem dX7_stretch_83 : decode cX7_stretch 83 = .ok (.iconst 3, 1) := by decide +kernel
theorem dX7_stretch_84 : decode cX7_stretch 84 = .ok (.goto 19, 3) := by decide +kernel
theorem dX7_stretch_87 : decode cX7_stretch 87 = .ok (.aload_n 0, 1) := by decide +kernel
theorem dX7_stretch_88 : decode cX7_stretch 88 = .ok (.getfield 7, 3) := by decide +kernel
theorem dX7_stretch_91 : decode cX7_stretch 91 = .ok (.iload_n 1, 1) := by decide +kernel
theorem dX7_stretch_92 : decode cX7_stretch 92 = .ok (.iaload, 1) := by decide +kernel
theorem dX7_stretch_93 : decode cX7_stretch 93 = .ok (.bipush 12, 2) := by decide +kernel
theorem dX7_stretch_95 : decode cX7_stretch 95 = .ok (.if_icmp .ne 7, 3) := by decide +kernel
theorem dX7_stretch_98 : decode cX7_stretch 98 = .ok (.iconst 4, 1) := by decide +kernel
theorem dX7_stretch_99 : decode cX7_stretch 99 = .ok (.goto 4, 3) := by decide +kernel
theorem dX7_stretch_102 : decode cX7_stretch 102 = .ok (.iconst 0, 1) := by decide +kernel
theorem dX7_stretch_103 : decode cX7_stretch 103 = .ok (.istore 5, 2) := by decide +kernel
theorem dX7_stretch_105 : decode cX7_stretch 105 = .ok (.aload_n 0, 1) := by decide +kernel
theorem dX7_stretch_106 : decode cX7_stretch 106 = .ok (.iload 5, 2) := by decide +kernel
theorem dX7_stretch_108 : decode cX7_stretch 108 = .ok (.invokevirtual 89, 3) := by decide +kernel
theorem dX7_stretch_111 : decode cX7_stretch 111 = .ok (.ifCond .eq 5, 3) := by decide +kernel
theorem dX7_stretch_114 : decode cX7_stretch 114 = .ok (.iconst 0, 1) := by decide +kernel
theorem dX7_stretch_115 : decode cX7_stretch 115 = .ok (.ireturn, 1) := by decide +kernel
theorem dX7_stretch_116 : decode cX7_stretch 116 = .ok (.aload_n 0, 1) := by decide +kernel
theorem dX7_stretch_117 : decode cX7_stretch 117 = .ok (.getfield 13, 3) := by decide +kernel
theorem dX7_stretch_120 : decode cX7_stretch 120 = .ok (.bipush 12, 2) := by decide +kernel
theorem dX7_stretch_122 : decode cX7_stretch 122 = .ok (.iload_n 1, 1) := by decide +kernel
theorem dX7_stretch_123 : decode cX7_stretch 123 = .ok (.imul, 1) := by decide +kernel
theorem dX7_stretch_124 : decode cX7_stretch 124 = .ok (.aload_n 0, 1) := by decide +kernel
theorem dX7_stretch_125 : decode cX7_stretch 125 = .ok (.getfield 7, 3) := by decide +kernel
theorem dX7_stretch_128 : decode cX7_stretch 128 = .ok (.iload_n 1, 1) := by decide +kernel
theorem dX7_stretch_129 : decode cX7_stretch 129 = .ok (.iaload, 1) := by decide +kernel
theorem dX7_stretch_130 : decode cX7_stretch 130 = .ok (.iadd, 1) := by decide +kernel
theorem dX7_stretch_131 : decode cX7_stretch 131 = .ok (.iload_n 2, 1) := by decide +kernel
theorem dX7_stretch_132 : decode cX7_stretch 132 = .ok (.iastore, 1) := by decide +kernel
theorem dX7_stretch_133 : decode cX7_stretch 133 = .ok (.aload_n 0, 1) := by decide +kernel
theorem dX7_stretch_134 : decode cX7_stretch 134 = .ok (.getfield 16, 3) := by decide +kernel
theorem dX7_stretch_137 : decode cX7_stretch 137 = .ok (.bipush 12, 2) := by decide +kernel
theorem dX7_stretch_139 : decode cX7_stretch 139 = .ok (.iload_n 1, 1) := by decide +kernel
theorem dX7_stretch_140 : decode cX7_stretch 140 = .ok (.imul, 1) := by decide +kernel
theorem dX7_stretch_141 : decode cX7_stretch 141 = .ok (.aload_n 0, 1) := by decide +kernel
theorem dX7_stretch_142 : decode cX7_stretch 142 = .ok (.getfield 7, 3) := by decide +kernel
theorem dX7_stretch_145 : decode cX7_stretch 145 = .ok (.iload_n 1, 1) := by decide +kernel
theorem dX7_stretch_146 : decode cX7_stretch 146 = .ok (.iaload, 1) := by decide +kernel
theorem dX7_stretch_147 : decode cX7_stretch 147 = .ok (.iadd, 1) := by decide +kernel
theorem dX7_stretch_148 : decode cX7_stretch 148 = .ok (.iload_n 3, 1) := by decide +kernel
theorem dX7_stretch_149 : decode cX7_stretch 149 = .ok (.iastore, 1) := by decide +kernel
theorem dX7_stretch_150 : decode cX7_stretch 150 = .ok (.aload_n 0, 1) := by decide +kernel
theorem dX7_stretch_151 : decode cX7_stretch 151 = .ok (.getfield 7, 3) := by decide +kernel
theorem dX7_stretch_154 : decode cX7_stretch 154 = .ok (.iload_n 1, 1) := by decide +kernel
theorem dX7_stretch_155 : decode cX7_stretch 155 = .ok (.dup2, 1) := by decide +kernel
theorem dX7_stretch_156 : decode cX7_stretch 156 = .ok (.iaload, 1) := by decide +kernel
theorem dX7_stretch_157 : decode cX7_stretch 157 = .ok (.iconst 1, 1) := by decide +kernel
theorem dX7_stretch_158 : decode cX7_stretch 158 = .ok (.iadd, 1) := by decide +kernel
theorem dX7_stretch_159 : decode cX7_stretch 159 = .ok (.iastore, 1) := by decide +kernel
theorem dX7_stretch_160 : decode cX7_stretch 160 = .ok (.aload_n 0, 1) := by decide +kernel
theorem dX7_stretch_161 : decode cX7_stretch 161 = .ok (.iload_n 1, 1) := by decide +kernel
theorem dX7_stretch_162 : decode cX7_stretch 162 = .ok (.invokevirtual 96, 3) := by decide +kernel
theorem dX7_stretch_165 : decode cX7_stretch 165 = .ok (.ireturn, 1) := by decide +kernel
theorem dX7_car_0 : decode cX7_car 0 = .ok (.aload_n 0, 1) := by decide +kernel
theorem dX7_car_1 : decode cX7_car 1 = .ok (.iload_n 1, 1) := by decide +kernel
theorem dX7_car_2 : decode cX7_car 2 = .ok (.iconst 1, 1) := by decide +kernel
theorem dX7_car_3 : decode cX7_car 3 = .ok (.bipush 9, 2) := by decide +kernel
theorem dX7_car_5 : decode cX7_car 5 = .ok (.invokestatic 79, 3) := by decide +kernel
theorem dX7_car_8 : decode cX7_car 8 = .ok (.ifCond .eq 21, 3) := by decide +kernel
theorem dX7_car_11 : decode cX7_car 11 = .ok (.iload_n 2, 1) := by decide +kernel
theorem dX7_car_12 : decode cX7_car 12 = .ok (.iconst 1, 1) := by decide +kernel
theorem dX7_car_13 : decode cX7_car 13 = .ok (.iconst 4, 1) := by decide +kernel
theorem dX7_car_14 : decode cX7_car 14 = .ok (.invokestatic 79, 3) := by decide +kernel
theorem dX7_car_17 : decode cX7_car 17 = .ok (.ifCond .eq 12, 3) := by decide +kernel
theorem dX7_car_20 : decode cX7_car 20 = .ok (.iload_n 3, 1) := by decide +kernel
theorem dX7_car_21 : decode cX7_car 21 = .ok (.iconst 0, 1) := by decide +kernel
theorem dX7_car_22 : decode cX7_car 22 = .ok (.iconst 3, 1) := by decide +kernel
theorem dX7_car_23 : decode cX7_car 23 = .ok (.invokestatic 79, 3) := by decide +kernel
theorem dX7_car_26 : decode cX7_car 26 = .ok (.ifCond .ne 7, 3) := by decide +kernel
theorem dX7_car_29 : decode cX7_car 29 = .ok (.iconst 1, 1) := by decide +kernel
theorem dX7_car_30 : decode cX7_car 30 = .ok (.goto 16, 3) := by decide +kernel
theorem dX7_car_33 : decode cX7_car 33 = .ok (.aload_n 0, 1) := by decide +kernel
theorem dX7_car_34 : decode cX7_car 34 = .ok (.getfield 83, 3) := by decide +kernel
theorem dX7_car_37 : decode cX7_car 37 = .ok (.iconst 4, 1) := by decide +kernel
theorem dX7_car_38 : decode cX7_car 38 = .ok (.if_icmp .ne 7, 3) := by decide +kernel
theorem dX7_car_41 : decode cX7_car 41 = .ok (.iconst 2, 1) := by decide +kernel
theorem dX7_car_42 : decode cX7_car 42 = .ok (.goto 4, 3) := by decide +kernel
theorem dX7_car_45 : decode cX7_car 45 = .ok (.iconst 0, 1) := by decide +kernel
theorem dX7_car_46 : decode cX7_car 46 = .ok (.invokevirtual 89, 3) := by decide +kernel
theorem dX7_car_49 : decode cX7_car 49 = .ok (.ifCond .eq 5, 3) := by decide +kernel
theorem dX7_car_52 : decode cX7_car 52 = .ok (.iconst 0, 1) := by decide +kernel
theorem dX7_car_53 : decode cX7_car 53 = .ok (.ireturn, 1) := by decide +kernel
theorem dX7_car_54 : decode cX7_car 54 = .ok (.aload_n 0, 1) := by decide +kernel
theorem dX7_car_55 : decode cX7_car 55 = .ok (.getfield 19, 3) := by decide +kernel
theorem dX7_car_58 : decode cX7_car 58 = .ok (.aload_n 0, 1) := by decide +kernel
theorem dX7_car_59 : decode cX7_car 59 = .ok (.getfield 83, 3) := by decide +kernel
theorem dX7_car_62 : decode cX7_car 62 = .ok (.iload_n 1, 1) := by decide +kernel
theorem dX7_car_63 : decode cX7_car 63 = .ok (.iastore, 1) := by decide +kernel
theorem dX7_car_64 : decode cX7_car 64 = .ok (.aload_n 0, 1) := by decide +kernel
theorem dX7_car_65 : decode cX7_car 65 = .ok (.getfield 22, 3) := by decide +kernel
theorem dX7_car_68 : decode cX7_car 68 = .ok (.aload_n 0, 1) := by decide +kernel
theorem dX7_car_69 : decode cX7_car 69 = .ok (.getfield 83, 3) := by decide +kernel
theorem dX7_car_72 : decode cX7_car 72 = .ok (.iload_n 2, 1) := by decide +kernel
theorem dX7_car_73 : decode cX7_car 73 = .ok (.iastore, 1) := by decide +kernel
theorem dX7_car_74 : decode cX7_car 74 = .ok (.aload_n 0, 1) := by decide +kernel
theorem dX7_car_75 : decode cX7_car 75 = .ok (.getfield 25, 3) := by decide +kernel
theorem dX7_car_78 : decode cX7_car 78 = .ok (.aload_n 0, 1) := by decide +kernel
theorem dX7_car_79 : decode cX7_car 79 = .ok (.getfield 83, 3) := by decide +kernel
theorem dX7_car_82 : decode cX7_car 82 = .ok (.iload_n 3, 1) := by decide +kernel
theorem dX7_car_83 : decode cX7_car 83 = .ok (.iastore, 1) := by decide +kernel
theorem dX7_car_84 : decode cX7_car 84 = .ok (.aload_n 0, 1) := by decide +kernel
theorem dX7_car_85 : decode cX7_car 85 = .ok (.dup, 1) := by decide +kernel
theorem dX7_car_86 : decode cX7_car 86 = .ok (.getfield 83, 3) := by decide +kernel
theorem dX7_car_89 : decode cX7_car 89 = .ok (.iconst 1, 1) := by decide +kernel
theorem dX7_car_90 : decode cX7_car 90 = .ok (.iadd, 1) := by decide +kernel
theorem dX7_car_91 : decode cX7_car 91 = .ok (.putfield 83, 3) := by decide +kernel
theorem dX7_car_94 : decode cX7_car 94 = .ok (.aload_n 0, 1) := by decide +kernel
theorem dX7_car_95 : decode cX7_car 95 = .ok (.getfield 83, 3) := by decide +kernel
theorem dX7_car_98 : decode cX7_car 98 = .ok (.iconst 1, 1) := by decide +kernel
theorem dX7_car_99 : decode cX7_car 99 = .ok (.isub, 1) := by decide +kernel
theorem dX7_car_100 : decode cX7_car 100 = .ok (.ireturn, 1) := by decide +kernel
theorem dX7_lengthOf_0 : decode cX7_lengthOf 0 = .ok (.aload_n 0, 1) := by decide +kernel
theorem dX7_lengthOf_1 : decode cX7_lengthOf 1 = .ok (.aload_n 0, 1) := by decide +kernel
theorem dX7_lengthOf_2 : decode cX7_lengthOf 2 = .ok (.iload_n 1, 1) := by decide +kernel
theorem dX7_lengthOf_3 : decode cX7_lengthOf 3 = .ok (.invokevirtual 93, 3) := by decide +kernel
theorem dX7_lengthOf_6 : decode cX7_lengthOf 6 = .ok (.ifCond .eq 7, 3) := by decide +kernel
theorem dX7_lengthOf_9 : decode cX7_lengthOf 9 = .ok (.iconst 1, 1) := by decide +kernel
theorem dX7_lengthOf_10 : decode cX7_lengthOf 10 = .ok (.goto 4, 3) := by decide +kernel
theorem dX7_lengthOf_13 : decode cX7_lengthOf 13 = .ok (.iconst 0, 1) := by decide +kernel
theorem dX7_lengthOf_14 : decode cX7_lengthOf 14 = .ok (.invokevirtual 89, 3) := by decide +kernel
theorem dX7_lengthOf_17 : decode cX7_lengthOf 17 = .ok (.ifCond .eq 7, 3) := by decide +kernel
theorem dX7_lengthOf_20 : decode cX7_lengthOf 20 = .ok (.iconst 0, 1) := by decide +kernel
theorem dX7_lengthOf_21 : decode cX7_lengthOf 21 = .ok (.goto 8, 3) := by decide +kernel
theorem dX7_lengthOf_24 : decode cX7_lengthOf 24 = .ok (.aload_n 0, 1) := by decide +kernel
theorem dX7_lengthOf_25 : decode cX7_lengthOf 25 = .ok (.iload_n 1, 1) := by decide +kernel
theorem dX7_lengthOf_26 : decode cX7_lengthOf 26 = .ok (.invokevirtual 96, 3) := by decide +kernel
theorem dX7_lengthOf_29 : decode cX7_lengthOf 29 = .ok (.ireturn, 1) := by decide +kernel
theorem dX7_limitNow_0 : decode cX7_limitNow 0 = .ok (.iload_n 2, 1) := by decide +kernel
theorem dX7_limitNow_1 : decode cX7_limitNow 1 = .ok (.istore_n 3, 1) := by decide +kernel
theorem dX7_limitNow_2 : decode cX7_limitNow 2 = .ok (.iconst 0, 1) := by decide +kernel
theorem dX7_limitNow_3 : decode cX7_limitNow 3 = .ok (.istore 4, 2) := by decide +kernel
theorem dX7_limitNow_5 : decode cX7_limitNow 5 = .ok (.iload_n 3, 1) := by decide +kernel
theorem dX7_limitNow_6 : decode cX7_limitNow 6 = .ok (.aload_n 0, 1) := by decide +kernel
theorem dX7_limitNow_7 : decode cX7_limitNow 7 = .ok (.getfield 13, 3) := by decide +kernel
theorem dX7_limitNow_10 : decode cX7_limitNow 10 = .ok (.bipush 12, 2) := by decide +kernel
theorem dX7_limitNow_12 : decode cX7_limitNow 12 = .ok (.iload_n 1, 1) := by decide +kernel
theorem dX7_limitNow_13 : decode cX7_limitNow 13 = .ok (.imul, 1) := by decide +kernel
theorem dX7_limitNow_14 : decode cX7_limitNow 14 = .ok (.iload 4, 2) := by decide +kernel
theorem dX7_limitNow_16 : decode cX7_limitNow 16 = .ok (.iadd, 1) := by decide +kernel
theorem dX7_limitNow_17 : decode cX7_limitNow 17 = .ok (.iaload, 1) := by decide +kernel
theorem dX7_limitNow_18 : decode cX7_limitNow 18 = .ok (.if_icmp .lt 24, 3) := by decide +kernel
theorem dX7_limitNow_21 : decode cX7_limitNow 21 = .ok (.iload_n 3, 1) := by decide +kernel
theorem dX7_limitNow_22 : decode cX7_limitNow 22 = .ok (.aload_n 0, 1) := by decide +kernel
theorem dX7_limitNow_23 : decode cX7_limitNow 23 = .ok (.getfield 13, 3) := by decide +kernel
theorem dX7_limitNow_26 : decode cX7_limitNow 26 = .ok (.bipush 12, 2) := by decide +kernel
theorem dX7_limitNow_28 : decode cX7_limitNow 28 = .ok (.iload_n 1, 1) := by decide +kernel
theorem dX7_limitNow_29 : decode cX7_limitNow 29 = .ok (.imul, 1) := by decide +kernel
theorem dX7_limitNow_30 : decode cX7_limitNow 30 = .ok (.iload 4, 2) := by decide +kernel
theorem dX7_limitNow_32 : decode cX7_limitNow 32 = .ok (.iadd, 1) := by decide +kernel
theorem dX7_limitNow_33 : decode cX7_limitNow 33 = .ok (.iaload, 1) := by decide +kernel
theorem dX7_limitNow_34 : decode cX7_limitNow 34 = .ok (.isub, 1) := by decide +kernel
theorem dX7_limitNow_35 : decode cX7_limitNow 35 = .ok (.istore_n 3, 1) := by decide +kernel
theorem dX7_limitNow_36 : decode cX7_limitNow 36 = .ok (.iinc 4 1, 3) := by decide +kernel
theorem dX7_limitNow_39 : decode cX7_limitNow 39 = .ok (.goto (-34), 3) := by decide +kernel
theorem dX7_limitNow_42 : decode cX7_limitNow 42 = .ok (.aload_n 0, 1) := by decide +kernel
theorem dX7_limitNow_43 : decode cX7_limitNow 43 = .ok (.getfield 16, 3) := by decide +kernel
theorem dX7_limitNow_46 : decode cX7_limitNow 46 = .ok (.bipush 12, 2) := by decide +kernel
theorem dX7_limitNow_48 : decode cX7_limitNow 48 = .ok (.iload_n 1, 1) := by decide +kernel
theorem dX7_limitNow_49 : decode cX7_limitNow 49 = .ok (.imul, 1) := by decide +kernel
theorem dX7_limitNow_50 : decode cX7_limitNow 50 = .ok (.iload 4, 2) := by decide +kernel
theorem dX7_limitNow_52 : decode cX7_limitNow 52 = .ok (.iadd, 1) := by decide +kernel
theorem dX7_limitNow_53 : decode cX7_limitNow 53 = .ok (.iaload, 1) := by decide +kernel
theorem dX7_limitNow_54 : decode cX7_limitNow 54 = .ok (.ireturn, 1) := by decide +kernel
theorem dX7_limitAt_0 : decode cX7_limitAt 0 = .ok (.aload_n 0, 1) := by decide +kernel
theorem dX7_limitAt_1 : decode cX7_limitAt 1 = .ok (.aload_n 0, 1) := by decide +kernel
theorem dX7_limitAt_2 : decode cX7_limitAt 2 = .ok (.iload_n 1, 1) := by decide +kernel
theorem dX7_limitAt_3 : decode cX7_limitAt 3 = .ok (.invokevirtual 93, 3) := by decide +kernel
theorem dX7_limitAt_6 : decode cX7_limitAt 6 = .ok (.ifCond .eq 7, 3) := by decide +kernel
theorem dX7_limitAt_9 : decode cX7_limitAt 9 = .ok (.iconst 1, 1) := by decide +kernel
theorem dX7_limitAt_10 : decode cX7_limitAt 10 = .ok (.goto 23, 3) := by decide +kernel
theorem dX7_limitAt_13 : decode cX7_limitAt 13 = .ok (.iload_n 2, 1) := by decide +kernel
theorem dX7_limitAt_14 : decode cX7_limitAt 14 = .ok (.iconst 0, 1) := by decide +kernel
theorem dX7_limitAt_15 : decode cX7_limitAt 15 = .ok (.aload_n 0, 1) := by decide +kernel
theorem dX7_limitAt_16 : decode cX7_limitAt 16 = .ok (.iload_n 1, 1) := by decide +kernel
theorem dX7_limitAt_17 : decode cX7_limitAt 17 = .ok (.invokevirtual 96, 3) := by decide +kernel
theorem dX7_limitAt_20 : decode cX7_limitAt 20 = .ok (.iconst 1, 1) := by decide +kernel
theorem dX7_limitAt_21 : decode cX7_limitAt 21 = .ok (.isub, 1) := by decide +kernel
theorem dX7_limitAt_22 : decode cX7_limitAt 22 = .ok (.invokestatic 79, 3) := by decide +kernel
theorem dX7_limitAt_25 : decode cX7_limitAt 25 = .ok (.ifCond .ne 7, 3) := by decide +kernel
theorem dX7_limitAt_28 : decode cX7_limitAt 28 = .ok (.iconst 2, 1) := by decide +kernel
theorem dX7_limitAt_29 : decode cX7_limitAt 29 = .ok (.goto 4, 3) := by decide +kernel
theorem dX7_limitAt_32 : decode cX7_limitAt 32 = .ok (.iconst 0, 1) := by decide +kernel
theorem dX7_limitAt_33 : decode cX7_limitAt 33 = .ok (.invokevirtual 89, 3) := by decide +kernel
theorem dX7_limitAt_36 : decode cX7_limitAt 36 = .ok (.ifCond .eq 7, 3) := by decide +kernel
theorem dX7_limitAt_39 : decode cX7_limitAt 39 = .ok (.iconst 0, 1) := by decide +kernel
theorem dX7_limitAt_40 : decode cX7_limitAt 40 = .ok (.goto 9, 3) := by decide +kernel
theorem dX7_limitAt_43 : decode cX7_limitAt 43 = .ok (.aload_n 0, 1) := by decide +kernel
theorem dX7_limitAt_44 : decode cX7_limitAt 44 = .ok (.iload_n 1, 1) := by decide +kernel
theorem dX7_limitAt_45 : decode cX7_limitAt 45 = .ok (.iload_n 2, 1) := by decide +kernel
theorem dX7_limitAt_46 : decode cX7_limitAt 46 = .ok (.invokevirtual 100, 3) := by decide +kernel
theorem dX7_limitAt_49 : decode cX7_limitAt 49 = .ok (.ireturn, 1) := by decide +kernel
theorem dX7_type_0 : decode cX7_type 0 = .ok (.iload_n 1, 1) := by decide +kernel
theorem dX7_type_1 : decode cX7_type 1 = .ok (.bipush 43, 2) := by decide +kernel
theorem dX7_type_3 : decode cX7_type 3 = .ok (.if_icmp .eq 15, 3) := by decide +kernel
theorem dX7_type_6 : decode cX7_type 6 = .ok (.iload_n 1, 1) := by decide +kernel
theorem dX7_type_7 : decode cX7_type 7 = .ok (.bipush 45, 2) := by decide +kernel
theorem dX7_type_9 : decode cX7_type 9 = .ok (.if_icmp .eq 9, 3) := by decide +kernel
theorem dX7_type_12 : decode cX7_type 12 = .ok (.iload_n 1, 1) := by decide +kernel
theorem dX7_type_13 : decode cX7_type 13 = .ok (.bipush 61, 2) := by decide +kernel
theorem dX7_type_15 : decode cX7_type 15 = .ok (.if_icmp .ne 17, 3) := by decide +kernel
theorem dX7_type_18 : decode cX7_type 18 = .ok (.iload_n 2, 1) := by decide +kernel
theorem dX7_type_19 : decode cX7_type 19 = .ok (.iconst 1, 1) := by decide +kernel
theorem dX7_type_20 : decode cX7_type 20 = .ok (.bipush 20, 2) := by decide +kernel
theorem dX7_type_22 : decode cX7_type 22 = .ok (.invokestatic 79, 3) := by decide +kernel
theorem dX7_type_25 : decode cX7_type 25 = .ok (.ifCond .eq 7, 3) := by decide +kernel
theorem dX7_type_28 : decode cX7_type 28 = .ok (.iconst 1, 1) := by decide +kernel
theorem dX7_type_29 : decode cX7_type 29 = .ok (.goto 4, 3) := by decide +kernel
theorem dX7_type_32 : decode cX7_type 32 = .ok (.iconst 0, 1) := by decide +kernel
theorem dX7_type_33 : decode cX7_type 33 = .ok (.istore_n 3, 1) := by decide +kernel
theorem dX7_type_34 : decode cX7_type 34 = .ok (.aload_n 0, 1) := by decide +kernel
theorem dX7_type_35 : decode cX7_type 35 = .ok (.iload_n 3, 1) := by decide +kernel
theorem dX7_type_36 : decode cX7_type 36 = .ok (.ifCond .ne 7, 3) := by decide +kernel
theorem dX7_type_39 : decode cX7_type 39 = .ok (.iconst 1, 1) := by decide +kernel
theorem dX7_type_40 : decode cX7_type 40 = .ok (.goto 19, 3) := by decide +kernel
theorem dX7_type_43 : decode cX7_type 43 = .ok (.aload_n 0, 1) := by decide +kernel
theorem dX7_type_44 : decode cX7_type 44 = .ok (.getfield 104, 3) := by decide +kernel
theorem dX7_type_47 : decode cX7_type 47 = .ok (.iload_n 2, 1) := by decide +kernel
theorem dX7_type_48 : decode cX7_type 48 = .ok (.iadd, 1) := by decide +kernel
theorem dX7_type_49 : decode cX7_type 49 = .ok (.bipush 60, 2) := by decide +kernel
theorem dX7_type_51 : decode cX7_type 51 = .ok (.if_icmp .le 7, 3) := by decide +kernel
theorem dX7_type_54 : decode cX7_type 54 = .ok (.iconst 2, 1) := by decide +kernel
theorem dX7_type_55 : decode cX7_type 55 = .ok (.goto 4, 3) := by decide +kernel
theorem dX7_type_58 : decode cX7_type 58 = .ok (.iconst 0, 1) := by decide +kernel
theorem dX7_type_59 : decode cX7_type 59 = .ok (.invokevirtual 89, 3) := by decide +kernel
theorem dX7_type_62 : decode cX7_type 62 = .ok (.ifCond .eq 5, 3) := by decide +kernel
theorem dX7_type_65 : decode cX7_type 65 = .ok (.iconst 0, 1) := by decide +kernel
theorem dX7_type_66 : decode cX7_type 66 = .ok (.ireturn, 1) := by decide +kernel
theorem dX7_type_67 : decode cX7_type 67 = .ok (.iconst 0, 1) := by decide +kernel
theorem dX7_type_68 : decode cX7_type 68 = .ok (.istore 4, 2) := by decide +kernel
theorem dX7_type_70 : decode cX7_type 70 = .ok (.iload 4, 2) := by decide +kernel
theorem dX7_type_72 : decode cX7_type 72 = .ok (.iload_n 2, 1) := by decide +kernel
theorem dX7_type_73 : decode cX7_type 73 = .ok (.if_icmp .ge 29, 3) := by decide +kernel
theorem dX7_type_76 : decode cX7_type 76 = .ok (.aload_n 0, 1) := by decide +kernel
theorem dX7_type_77 : decode cX7_type 77 = .ok (.getfield 28, 3) := by decide +kernel
theorem dX7_type_80 : decode cX7_type 80 = .ok (.aload_n 0, 1) := by decide +kernel
theorem dX7_type_81 : decode cX7_type 81 = .ok (.getfield 104, 3) := by decide +kernel
theorem dX7_type_84 : decode cX7_type 84 = .ok (.iload_n 1, 1) := by decide +kernel
theorem dX7_type_85 : decode cX7_type 85 = .ok (.castore, 1) := by decide +kernel
theorem dX7_type_86 : decode cX7_type 86 = .ok (.aload_n 0, 1) := by decide +kernel
theorem dX7_type_87 : decode cX7_type 87 = .ok (.dup, 1) := by decide +kernel
theorem dX7_type_88 : decode cX7_type 88 = .ok (.getfield 104, 3) := by decide +kernel
theorem dX7_type_91 : decode cX7_type 91 = .ok (.iconst 1, 1) := by decide +kernel
theorem dX7_type_92 : decode cX7_type 92 = .ok (.iadd, 1) := by decide +kernel
theorem dX7_type_93 : decode cX7_type 93 = .ok (.putfield 104, 3) := by decide +kernel
theorem dX7_type_96 : decode cX7_type 96 = .ok (.iinc 4 1, 3) := by decide +kernel
theorem dX7_type_99 : decode cX7_type 99 = .ok (.goto (-29), 3) := by decide +kernel
theorem dX7_type_102 : decode cX7_type 102 = .ok (.aload_n 0, 1) := by decide +kernel
theorem dX7_type_103 : decode cX7_type 103 = .ok (.getfield 104, 3) := by decide +kernel
theorem dX7_type_106 : decode cX7_type 106 = .ok (.ireturn, 1) := by decide +kernel
theorem dX7_wipe_0 : decode cX7_wipe 0 = .ok (.aload_n 0, 1) := by decide +kernel
theorem dX7_wipe_1 : decode cX7_wipe 1 = .ok (.iconst 0, 1) := by decide +kernel
theorem dX7_wipe_2 : decode cX7_wipe 2 = .ok (.putfield 72, 3) := by decide +kernel
theorem dX7_wipe_5 : decode cX7_wipe 5 = .ok (.aload_n 0, 1) := by decide +kernel
theorem dX7_wipe_6 : decode cX7_wipe 6 = .ok (.getfield 104, 3) := by decide +kernel
theorem dX7_wipe_9 : decode cX7_wipe 9 = .ok (.istore_n 1, 1) := by decide +kernel
theorem dX7_wipe_10 : decode cX7_wipe 10 = .ok (.aload_n 0, 1) := by decide +kernel
theorem dX7_wipe_11 : decode cX7_wipe 11 = .ok (.iconst 0, 1) := by decide +kernel
theorem dX7_wipe_12 : decode cX7_wipe 12 = .ok (.putfield 104, 3) := by decide +kernel
theorem dX7_wipe_15 : decode cX7_wipe 15 = .ok (.iload_n 1, 1) := by decide +kernel
theorem dX7_wipe_16 : decode cX7_wipe 16 = .ok (.ireturn, 1) := by decide +kernel
theorem dX7_starts_0 : decode cX7_starts 0 = .ok (.aload_n 0, 1) := by decide +kernel
theorem dX7_starts_1 : decode cX7_starts 1 = .ok (.iconst 0, 1) := by decide +kernel
theorem dX7_starts_2 : decode cX7_starts 2 = .ok (.putfield 107, 3) := by decide +kernel
theorem dX7_starts_5 : decode cX7_starts 5 = .ok (.aload_n 0, 1) := by decide +kernel
theorem dX7_starts_6 : decode cX7_starts 6 = .ok (.iconst 0, 1) := by decide +kernel
theorem dX7_starts_7 : decode cX7_starts 7 = .ok (.putfield 110, 3) := by decide +kernel
theorem dX7_starts_10 : decode cX7_starts 10 = .ok (.aload_n 0, 1) := by decide +kernel
theorem dX7_starts_11 : decode cX7_starts 11 = .ok (.iconst 0, 1) := by decide +kernel
theorem dX7_starts_12 : decode cX7_starts 12 = .ok (.putfield 113, 3) := by decide +kernel
theorem dX7_starts_15 : decode cX7_starts 15 = .ok (.aload_n 0, 1) := by decide +kernel
theorem dX7_starts_16 : decode cX7_starts 16 = .ok (.iconst 0, 1) := by decide +kernel
theorem dX7_starts_17 : decode cX7_starts 17 = .ok (.putfield 116, 3) := by decide +kernel
theorem dX7_starts_20 : decode cX7_starts 20 = .ok (.return_, 1) := by decide +kernel
theorem dX7_goes_0 : decode cX7_goes 0 = .ok (.iload_n 3, 1) := by decide +kernel
theorem dX7_goes_1 : decode cX7_goes 1 = .ok (.bipush 43, 2) := by decide +kernel
theorem dX7_goes_3 : decode cX7_goes 3 = .ok (.if_icmp .ne 50, 3) := by decide +kernel
theorem dX7_goes_6 : decode cX7_goes 6 = .ok (.aload_n 0, 1) := by decide +kernel
theorem dX7_goes_7 : decode cX7_goes 7 = .ok (.aload_n 0, 1) := by decide +kernel
theorem dX7_goes_8 : decode cX7_goes 8 = .ok (.getfield 110, 3) := by decide +kernel
theorem dX7_goes_11 : decode cX7_goes 11 = .ok (.aload_n 0, 1) := by decide +kernel
theorem dX7_goes_12 : decode cX7_goes 12 = .ok (.getfield 22, 3) := by decide +kernel
theorem dX7_goes_15 : decode cX7_goes 15 = .ok (.iload_n 2, 1) := by decide +kernel
theorem dX7_goes_16 : decode cX7_goes 16 = .ok (.iaload, 1) := by decide +kernel
theorem dX7_goes_17 : decode cX7_goes 17 = .ok (.iadd, 1) := by decide +kernel
theorem dX7_goes_18 : decode cX7_goes 18 = .ok (.aload_n 0, 1) := by decide +kernel
theorem dX7_goes_19 : decode cX7_goes 19 = .ok (.getfield 19, 3) := by decide +kernel
theorem dX7_goes_22 : decode cX7_goes 22 = .ok (.iload_n 2, 1) := by decide +kernel
theorem dX7_goes_23 : decode cX7_goes 23 = .ok (.iaload, 1) := by decide +kernel
theorem dX7_goes_24 : decode cX7_goes 24 = .ok (.if_icmp .le 12, 3) := by decide +kernel
theorem dX7_goes_27 : decode cX7_goes 27 = .ok (.aload_n 0, 1) := by decide +kernel
theorem dX7_goes_28 : decode cX7_goes 28 = .ok (.getfield 19, 3) := by decide +kernel
theorem dX7_goes_31 : decode cX7_goes 31 = .ok (.iload_n 2, 1) := by decide +kernel
theorem dX7_goes_32 : decode cX7_goes 32 = .ok (.iaload, 1) := by decide +kernel
theorem dX7_goes_33 : decode cX7_goes 33 = .ok (.goto 14, 3) := by decide +kernel
theorem dX7_goes_36 : decode cX7_goes 36 = .ok (.aload_n 0, 1) := by decide +kernel
theorem dX7_goes_37 : decode cX7_goes 37 = .ok (.getfield 110, 3) := by decide +kernel
theorem dX7_goes_40 : decode cX7_goes 40 = .ok (.aload_n 0, 1) := by decide +kernel
theorem dX7_goes_41 : decode cX7_goes 41 = .ok (.getfield 22, 3) := by decide +kernel
theorem dX7_goes_44 : decode cX7_goes 44 = .ok (.iload_n 2, 1) := by decide +kernel
theorem dX7_goes_45 : decode cX7_goes 45 = .ok (.iaload, 1) := by decide +kernel
theorem dX7_goes_46 : decode cX7_goes 46 = .ok (.iadd, 1) := by decide +kernel
theorem dX7_goes_47 : decode cX7_goes 47 = .ok (.putfield 110, 3) := by decide +kernel
theorem dX7_goes_50 : decode cX7_goes 50 = .ok (.goto 41, 3) := by decide +kernel
theorem dX7_goes_53 : decode cX7_goes 53 = .ok (.iload_n 3, 1) := by decide +kernel
theorem dX7_goes_54 : decode cX7_goes 54 = .ok (.bipush 45, 2) := by decide +kernel
theorem dX7_goes_56 : decode cX7_goes 56 = .ok (.if_icmp .ne 35, 3) := by decide +kernel
theorem dX7_goes_59 : decode cX7_goes 59 = .ok (.aload_n 0, 1) := by decide +kernel
theorem dX7_goes_60 : decode cX7_goes 60 = .ok (.aload_n 0, 1) := by decide +kernel
theorem dX7_goes_61 : decode cX7_goes 61 = .ok (.getfield 110, 3) := by decide +kernel
theorem dX7_goes_64 : decode cX7_goes 64 = .ok (.aload_n 0, 1) := by decide +kernel
theorem dX7_goes_65 : decode cX7_goes 65 = .ok (.getfield 22, 3) := by decide +kernel
theorem dX7_goes_68 : decode cX7_goes 68 = .ok (.iload_n 2, 1) := by decide +kernel
theorem dX7_goes_69 : decode cX7_goes 69 = .ok (.iaload, 1) := by decide +kernel
theorem dX7_goes_70 : decode cX7_goes 70 = .ok (.if_icmp .ge 7, 3) := by decide +kernel
theorem dX7_goes_73 : decode cX7_goes 73 = .ok (.iconst 0, 1) := by decide +kernel
theorem dX7_goes_74 : decode cX7_goes 74 = .ok (.goto 14, 3) := by decide +kernel
theorem dX7_goes_77 : decode cX7_goes 77 = .ok (.aload_n 0, 1) := by decide +kernel
theorem dX7_goes_78 : decode cX7_goes 78 = .ok (.getfield 110, 3) := by decide +kernel
theorem dX7_goes_81 : decode cX7_goes 81 = .ok (.aload_n 0, 1) := by decide +kernel
theorem dX7_goes_82 : decode cX7_goes 82 = .ok (.getfield 22, 3) := by decide +kernel
theorem dX7_goes_85 : decode cX7_goes 85 = .ok (.iload_n 2, 1) := by decide +kernel
theorem dX7_goes_86 : decode cX7_goes 86 = .ok (.iaload, 1) := by decide +kernel
theorem dX7_goes_87 : decode cX7_goes 87 = .ok (.isub, 1) := by decide +kernel
theorem dX7_goes_88 : decode cX7_goes 88 = .ok (.putfield 110, 3) := by decide +kernel
theorem dX7_goes_91 : decode cX7_goes 91 = .ok (.aload_n 0, 1) := by decide +kernel
theorem dX7_goes_92 : decode cX7_goes 92 = .ok (.dup, 1) := by decide +kernel
theorem dX7_goes_93 : decode cX7_goes 93 = .ok (.getfield 107, 3) := by decide +kernel
theorem dX7_goes_96 : decode cX7_goes 96 = .ok (.aload_n 0, 1) := by decide +kernel
theorem dX7_goes_97 : decode cX7_goes 97 = .ok (.getfield 110, 3) := by decide +kernel
theorem dX7_goes_100 : decode cX7_goes 100 = .ok (.iadd, 1) := by decide +kernel
theorem dX7_goes_101 : decode cX7_goes 101 = .ok (.putfield 107, 3) := by decide +kernel
theorem dX7_goes_104 : decode cX7_goes 104 = .ok (.aload_n 0, 1) := by decide +kernel
theorem dX7_goes_105 : decode cX7_goes 105 = .ok (.dup, 1) := by decide +kernel
theorem dX7_goes_106 : decode cX7_goes 106 = .ok (.getfield 113, 3) := by decide +kernel
theorem dX7_goes_109 : decode cX7_goes 109 = .ok (.iconst 1, 1) := by decide +kernel
theorem dX7_goes_110 : decode cX7_goes 110 = .ok (.iadd, 1) := by decide +kernel
theorem dX7_goes_111 : decode cX7_goes 111 = .ok (.putfield 113, 3) := by decide +kernel
theorem dX7_goes_114 : decode cX7_goes 114 = .ok (.aload_n 0, 1) := by decide +kernel
theorem dX7_goes_115 : decode cX7_goes 115 = .ok (.aload_n 0, 1) := by decide +kernel
theorem dX7_goes_116 : decode cX7_goes 116 = .ok (.getfield 107, 3) := by decide +kernel
theorem dX7_goes_119 : decode cX7_goes 119 = .ok (.aload_n 0, 1) := by decide +kernel
theorem dX7_goes_120 : decode cX7_goes 120 = .ok (.iload_n 1, 1) := by decide +kernel
theorem dX7_goes_121 : decode cX7_goes 121 = .ok (.invokevirtual 96, 3) := by decide +kernel
theorem dX7_goes_124 : decode cX7_goes 124 = .ok (.if_icmp .lt 7, 3) := by decide +kernel
theorem dX7_goes_127 : decode cX7_goes 127 = .ok (.iconst 1, 1) := by decide +kernel
theorem dX7_goes_128 : decode cX7_goes 128 = .ok (.goto 4, 3) := by decide +kernel
theorem dX7_goes_131 : decode cX7_goes 131 = .ok (.iconst 0, 1) := by decide +kernel
theorem dX7_goes_132 : decode cX7_goes 132 = .ok (.putfield 116, 3) := by decide +kernel
theorem dX7_goes_135 : decode cX7_goes 135 = .ok (.aload_n 0, 1) := by decide +kernel
theorem dX7_goes_136 : decode cX7_goes 136 = .ok (.getfield 116, 3) := by decide +kernel
theorem dX7_goes_139 : decode cX7_goes 139 = .ok (.ifCond .ne 36, 3) := by decide +kernel
theorem dX7_goes_142 : decode cX7_goes 142 = .ok (.aload_n 0, 1) := by decide +kernel
theorem dX7_goes_143 : decode cX7_goes 143 = .ok (.getfield 110, 3) := by decide +kernel
theorem dX7_goes_146 : decode cX7_goes 146 = .ok (.aload_n 0, 1) := by decide +kernel
theorem dX7_goes_147 : decode cX7_goes 147 = .ok (.iload_n 1, 1) := by decide +kernel
theorem dX7_goes_148 : decode cX7_goes 148 = .ok (.aload_n 0, 1) := by decide +kernel
theorem dX7_goes_149 : decode cX7_goes 149 = .ok (.getfield 107, 3) := by decide +kernel
theorem dX7_goes_152 : decode cX7_goes 152 = .ok (.invokevirtual 100, 3) := by decide +kernel
theorem dX7_goes_155 : decode cX7_goes 155 = .ok (.aload_n 0, 1) := by decide +kernel
theorem dX7_goes_156 : decode cX7_goes 156 = .ok (.getfield 25, 3) := by decide +kernel
theorem dX7_goes_159 : decode cX7_goes 159 = .ok (.iload_n 2, 1) := by decide +kernel
theorem dX7_goes_160 : decode cX7_goes 160 = .ok (.iaload, 1) := by decide +kernel
theorem dX7_goes_161 : decode cX7_goes 161 = .ok (.iadd, 1) := by decide +kernel
theorem dX7_goes_162 : decode cX7_goes 162 = .ok (.if_icmp .le 13, 3) := by decide +kernel
theorem dX7_goes_165 : decode cX7_goes 165 = .ok (.aload_n 0, 1) := by decide +kernel
theorem dX7_goes_166 : decode cX7_goes 166 = .ok (.aload_n 0, 1) := by decide +kernel
theorem dX7_goes_167 : decode cX7_goes 167 = .ok (.getfield 110, 3) := by decide +kernel
theorem dX7_goes_170 : decode cX7_goes 170 = .ok (.iconst 2, 1) := by decide +kernel
theorem dX7_goes_171 : decode cX7_goes 171 = .ok (.idiv, 1) := by decide +kernel
theorem dX7_goes_172 : decode cX7_goes 172 = .ok (.putfield 110, 3) := by decide +kernel
theorem dX7_goes_175 : decode cX7_goes 175 = .ok (.return_, 1) := by decide +kernel
theorem dX7_drives_0 : decode cX7_drives 0 = .ok (.aload_n 0, 1) := by decide +kernel
theorem dX7_drives_1 : decode cX7_drives 1 = .ok (.invokevirtual 120, 3) := by decide +kernel
theorem dX7_drives_4 : decode cX7_drives 4 = .ok (.aload_n 0, 1) := by decide +kernel
theorem dX7_drives_5 : decode cX7_drives 5 = .ok (.getfield 113, 3) := by decide +kernel
theorem dX7_drives_8 : decode cX7_drives 8 = .ok (.aload_n 0, 1) := by decide +kernel
theorem dX7_drives_9 : decode cX7_drives 9 = .ok (.getfield 104, 3) := by decide +kernel
theorem dX7_drives_12 : decode cX7_drives 12 = .ok (.if_icmp .ge 28, 3) := by decide +kernel
theorem dX7_drives_15 : decode cX7_drives 15 = .ok (.aload_n 0, 1) := by decide +kernel
theorem dX7_drives_16 : decode cX7_drives 16 = .ok (.getfield 116, 3) := by decide +kernel
theorem dX7_drives_19 : decode cX7_drives 19 = .ok (.ifCond .ne 21, 3) := by decide +kernel
theorem dX7_drives_22 : decode cX7_drives 22 = .ok (.aload_n 0, 1) := by decide +kernel
theorem dX7_drives_23 : decode cX7_drives 23 = .ok (.iload_n 1, 1) := by decide +kernel
theorem dX7_drives_24 : decode cX7_drives 24 = .ok (.iload_n 2, 1) := by decide +kernel
theorem dX7_drives_25 : decode cX7_drives 25 = .ok (.aload_n 0, 1) := by decide +kernel
theorem dX7_drives_26 : decode cX7_drives 26 = .ok (.getfield 28, 3) := by decide +kernel
theorem dX7_drives_29 : decode cX7_drives 29 = .ok (.aload_n 0, 1) := by decide +kernel
theorem dX7_drives_30 : decode cX7_drives 30 = .ok (.getfield 113, 3) := by decide +kernel
theorem dX7_drives_33 : decode cX7_drives 33 = .ok (.caload, 1) := by decide +kernel
theorem dX7_drives_34 : decode cX7_drives 34 = .ok (.invokevirtual 123, 3) := by decide +kernel
theorem dX7_drives_37 : decode cX7_drives 37 = .ok (.goto (-33), 3) := by decide +kernel
theorem dX7_drives_40 : decode cX7_drives 40 = .ok (.return_, 1) := by decide +kernel
theorem dX7_timeNow_0 : decode cX7_timeNow 0 = .ok (.bipush 100, 2) := by decide +kernel
theorem dX7_timeNow_2 : decode cX7_timeNow 2 = .ok (.aload_n 0, 1) := by decide +kernel
theorem dX7_timeNow_3 : decode cX7_timeNow 3 = .ok (.getfield 113, 3) := by decide +kernel
theorem dX7_timeNow_6 : decode cX7_timeNow 6 = .ok (.imul, 1) := by decide +kernel
theorem dX7_timeNow_7 : decode cX7_timeNow 7 = .ok (.bipush 100, 2) := by decide +kernel
theorem dX7_timeNow_9 : decode cX7_timeNow 9 = .ok (.aload_n 0, 1) := by decide +kernel
theorem dX7_timeNow_10 : decode cX7_timeNow 10 = .ok (.getfield 107, 3) := by decide +kernel
theorem dX7_timeNow_13 : decode cX7_timeNow 13 = .ok (.aload_n 0, 1) := by decide +kernel
theorem dX7_timeNow_14 : decode cX7_timeNow 14 = .ok (.iload_n 1, 1) := by decide +kernel
theorem dX7_timeNow_15 : decode cX7_timeNow 15 = .ok (.invokevirtual 96, 3) := by decide +kernel
theorem dX7_timeNow_18 : decode cX7_timeNow 18 = .ok (.isub, 1) := by decide +kernel
theorem dX7_timeNow_19 : decode cX7_timeNow 19 = .ok (.imul, 1) := by decide +kernel
theorem dX7_timeNow_20 : decode cX7_timeNow 20 = .ok (.aload_n 0, 1) := by decide +kernel
theorem dX7_timeNow_21 : decode cX7_timeNow 21 = .ok (.getfield 110, 3) := by decide +kernel
theorem dX7_timeNow_24 : decode cX7_timeNow 24 = .ok (.idiv, 1) := by decide +kernel
theorem dX7_timeNow_25 : decode cX7_timeNow 25 = .ok (.isub, 1) := by decide +kernel
theorem dX7_timeNow_26 : decode cX7_timeNow 26 = .ok (.ireturn, 1) := by decide +kernel
theorem dX7_canDrive_0 : decode cX7_canDrive 0 = .ok (.aload_n 0, 1) := by decide +kernel
theorem dX7_canDrive_1 : decode cX7_canDrive 1 = .ok (.getfield 7, 3) := by decide +kernel
theorem dX7_canDrive_4 : decode cX7_canDrive 4 = .ok (.iload_n 1, 1) := by decide +kernel
theorem dX7_canDrive_5 : decode cX7_canDrive 5 = .ok (.iaload, 1) := by decide +kernel
theorem dX7_canDrive_6 : decode cX7_canDrive 6 = .ok (.ifCond .ne 5, 3) := by decide +kernel
theorem dX7_canDrive_9 : decode cX7_canDrive 9 = .ok (.iconst 0, 1) := by decide +kernel
theorem dX7_canDrive_10 : decode cX7_canDrive 10 = .ok (.ireturn, 1) := by decide +kernel
theorem dX7_canDrive_11 : decode cX7_canDrive 11 = .ok (.aload_n 0, 1) := by decide +kernel
theorem dX7_canDrive_12 : decode cX7_canDrive 12 = .ok (.iload_n 1, 1) := by decide +kernel
theorem dX7_canDrive_13 : decode cX7_canDrive 13 = .ok (.iload_n 2, 1) := by decide +kernel
theorem dX7_canDrive_14 : decode cX7_canDrive 14 = .ok (.invokevirtual 127, 3) := by decide +kernel
theorem dX7_canDrive_17 : decode cX7_canDrive 17 = .ok (.aload_n 0, 1) := by decide +kernel
theorem dX7_canDrive_18 : decode cX7_canDrive 18 = .ok (.getfield 116, 3) := by decide +kernel
theorem dX7_canDrive_21 : decode cX7_canDrive 21 = .ok (.ireturn, 1) := by decide +kernel
theorem dX7_isGhost_0 : decode cX7_isGhost 0 = .ok (.iload_n 1, 1) := by decide +kernel
theorem dX7_isGhost_1 : decode cX7_isGhost 1 = .ok (.iconst (-1), 1) := by decide +kernel
theorem dX7_isGhost_2 : decode cX7_isGhost 2 = .ok (.if_icmp .eq 30, 3) := by decide +kernel
theorem dX7_isGhost_5 : decode cX7_isGhost 5 = .ok (.aload_n 0, 1) := by decide +kernel
theorem dX7_isGhost_6 : decode cX7_isGhost 6 = .ok (.iload_n 1, 1) := by decide +kernel
theorem dX7_isGhost_7 : decode cX7_isGhost 7 = .ok (.invokevirtual 131, 3) := by decide +kernel
theorem dX7_isGhost_10 : decode cX7_isGhost 10 = .ok (.ifCond .ne 26, 3) := by decide +kernel
theorem dX7_isGhost_13 : decode cX7_isGhost 13 = .ok (.aload_n 0, 1) := by decide +kernel
theorem dX7_isGhost_14 : decode cX7_isGhost 14 = .ok (.getfield 47, 3) := by decide +kernel
theorem dX7_isGhost_17 : decode cX7_isGhost 17 = .ok (.iload_n 1, 1) := by decide +kernel
theorem dX7_isGhost_18 : decode cX7_isGhost 18 = .ok (.iaload, 1) := by decide +kernel
theorem dX7_isGhost_19 : decode cX7_isGhost 19 = .ok (.iload_n 2, 1) := by decide +kernel
theorem dX7_isGhost_20 : decode cX7_isGhost 20 = .ok (.if_icmp .ne 16, 3) := by decide +kernel
theorem dX7_isGhost_23 : decode cX7_isGhost 23 = .ok (.aload_n 0, 1) := by decide +kernel
theorem dX7_isGhost_24 : decode cX7_isGhost 24 = .ok (.getfield 62, 3) := by decide +kernel
theorem dX7_isGhost_27 : decode cX7_isGhost 27 = .ok (.iload_n 1, 1) := by decide +kernel
theorem dX7_isGhost_28 : decode cX7_isGhost 28 = .ok (.baload, 1) := by decide +kernel
theorem dX7_isGhost_29 : decode cX7_isGhost 29 = .ok (.ifCond .ne 7, 3) := by decide +kernel
theorem dX7_isGhost_32 : decode cX7_isGhost 32 = .ok (.iconst 1, 1) := by decide +kernel
theorem dX7_isGhost_33 : decode cX7_isGhost 33 = .ok (.goto 4, 3) := by decide +kernel
theorem dX7_isGhost_36 : decode cX7_isGhost 36 = .ok (.iconst 0, 1) := by decide +kernel
theorem dX7_isGhost_37 : decode cX7_isGhost 37 = .ok (.ireturn, 1) := by decide +kernel
theorem dX7_drive_0 : decode cX7_drive 0 = .ok (.iload_n 1, 1) := by decide +kernel
theorem dX7_drive_1 : decode cX7_drive 1 = .ok (.iconst 0, 1) := by decide +kernel
theorem dX7_drive_2 : decode cX7_drive 2 = .ok (.iconst 5, 1) := by decide +kernel
theorem dX7_drive_3 : decode cX7_drive 3 = .ok (.invokestatic 79, 3) := by decide +kernel
theorem dX7_drive_6 : decode cX7_drive 6 = .ok (.ifCond .eq 19, 3) := by decide +kernel
theorem dX7_drive_9 : decode cX7_drive 9 = .ok (.aload_n 0, 1) := by decide +kernel
theorem dX7_drive_10 : decode cX7_drive 10 = .ok (.iload_n 2, 1) := by decide +kernel
theorem dX7_drive_11 : decode cX7_drive 11 = .ok (.invokevirtual 93, 3) := by decide +kernel
theorem dX7_drive_14 : decode cX7_drive 14 = .ok (.ifCond .ne 11, 3) := by decide +kernel
theorem dX7_drive_17 : decode cX7_drive 17 = .ok (.aload_n 0, 1) := by decide +kernel
theorem dX7_drive_18 : decode cX7_drive 18 = .ok (.iload_n 3, 1) := by decide +kernel
theorem dX7_drive_19 : decode cX7_drive 19 = .ok (.invokevirtual 134, 3) := by decide +kernel
theorem dX7_drive_22 : decode cX7_drive 22 = .ok (.ifCond .eq 7, 3) := by decide +kernel
theorem dX7_drive_25 : decode cX7_drive 25 = .ok (.iconst 1, 1) := by decide +kernel
theorem dX7_drive_26 : decode cX7_drive 26 = .ok (.goto 44, 3) := by decide +kernel
theorem dX7_drive_29 : decode cX7_drive 29 = .ok (.aload_n 0, 1) := by decide +kernel
theorem dX7_drive_30 : decode cX7_drive 30 = .ok (.iload 4, 2) := by decide +kernel
theorem dX7_drive_32 : decode cX7_drive 32 = .ok (.iload_n 2, 1) := by decide +kernel
theorem dX7_drive_33 : decode cX7_drive 33 = .ok (.invokevirtual 137, 3) := by decide +kernel
theorem dX7_drive_36 : decode cX7_drive 36 = .ok (.ifCond .ne 7, 3) := by decide +kernel
theorem dX7_drive_39 : decode cX7_drive 39 = .ok (.iconst 2, 1) := by decide +kernel
theorem dX7_drive_40 : decode cX7_drive 40 = .ok (.goto 30, 3) := by decide +kernel
theorem dX7_drive_43 : decode cX7_drive 43 = .ok (.aload_n 0, 1) := by decide +kernel
theorem dX7_drive_44 : decode cX7_drive 44 = .ok (.iload_n 2, 1) := by decide +kernel
theorem dX7_drive_45 : decode cX7_drive 45 = .ok (.iload_n 3, 1) := by decide +kernel
theorem dX7_drive_46 : decode cX7_drive 46 = .ok (.invokevirtual 141, 3) := by decide +kernel
theorem dX7_drive_49 : decode cX7_drive 49 = .ok (.ifCond .ne 7, 3) := by decide +kernel
theorem dX7_drive_52 : decode cX7_drive 52 = .ok (.iconst 3, 1) := by decide +kernel
theorem dX7_drive_53 : decode cX7_drive 53 = .ok (.goto 17, 3) := by decide +kernel
theorem dX7_drive_56 : decode cX7_drive 56 = .ok (.aload_n 0, 1) := by decide +kernel
theorem dX7_drive_57 : decode cX7_drive 57 = .ok (.getfield 86, 3) := by decide +kernel
theorem dX7_drive_60 : decode cX7_drive 60 = .ok (.bipush 30, 2) := by decide +kernel
theorem dX7_drive_62 : decode cX7_drive 62 = .ok (.if_icmp .ne 7, 3) := by decide +kernel
theorem dX7_drive_65 : decode cX7_drive 65 = .ok (.iconst 4, 1) := by decide +kernel
theorem dX7_drive_66 : decode cX7_drive 66 = .ok (.goto 4, 3) := by decide +kernel
theorem dX7_drive_69 : decode cX7_drive 69 = .ok (.iconst 0, 1) := by decide +kernel
theorem dX7_drive_70 : decode cX7_drive 70 = .ok (.istore 5, 2) := by decide +kernel
theorem dX7_drive_72 : decode cX7_drive 72 = .ok (.aload_n 0, 1) := by decide +kernel
theorem dX7_drive_73 : decode cX7_drive 73 = .ok (.iload 5, 2) := by decide +kernel
theorem dX7_drive_75 : decode cX7_drive 75 = .ok (.invokevirtual 89, 3) := by decide +kernel
theorem dX7_drive_78 : decode cX7_drive 78 = .ok (.ifCond .eq 5, 3) := by decide +kernel
theorem dX7_drive_81 : decode cX7_drive 81 = .ok (.iconst 0, 1) := by decide +kernel
theorem dX7_drive_82 : decode cX7_drive 82 = .ok (.ireturn, 1) := by decide +kernel
theorem dX7_drive_83 : decode cX7_drive 83 = .ok (.aload_n 0, 1) := by decide +kernel
theorem dX7_drive_84 : decode cX7_drive 84 = .ok (.getfield 86, 3) := by decide +kernel
theorem dX7_drive_87 : decode cX7_drive 87 = .ok (.istore 6, 2) := by decide +kernel
theorem dX7_drive_89 : decode cX7_drive 89 = .ok (.aload_n 0, 1) := by decide +kernel
theorem dX7_drive_90 : decode cX7_drive 90 = .ok (.getfield 35, 3) := by decide +kernel
theorem dX7_drive_93 : decode cX7_drive 93 = .ok (.iload 6, 2) := by decide +kernel
theorem dX7_drive_95 : decode cX7_drive 95 = .ok (.aload_n 0, 1) := by decide +kernel
theorem dX7_drive_96 : decode cX7_drive 96 = .ok (.getfield 113, 3) := by decide +kernel
theorem dX7_drive_99 : decode cX7_drive 99 = .ok (.iastore, 1) := by decide +kernel
theorem dX7_drive_100 : decode cX7_drive 100 = .ok (.aload_n 0, 1) := by decide +kernel
theorem dX7_drive_101 : decode cX7_drive 101 = .ok (.getfield 38, 3) := by decide +kernel
theorem dX7_drive_104 : decode cX7_drive 104 = .ok (.iload 6, 2) := by decide +kernel
theorem dX7_drive_106 : decode cX7_drive 106 = .ok (.aload_n 0, 1) := by decide +kernel
theorem dX7_drive_107 : decode cX7_drive 107 = .ok (.iload_n 2, 1) := by decide +kernel
theorem dX7_drive_108 : decode cX7_drive 108 = .ok (.invokevirtual 144, 3) := by decide +kernel
theorem dX7_drive_111 : decode cX7_drive 111 = .ok (.iastore, 1) := by decide +kernel
theorem dX7_drive_112 : decode cX7_drive 112 = .ok (.iconst 0, 1) := by decide +kernel
theorem dX7_drive_113 : decode cX7_drive 113 = .ok (.istore 7, 2) := by decide +kernel
theorem dX7_drive_115 : decode cX7_drive 115 = .ok (.iload 7, 2) := by decide +kernel
theorem dX7_drive_117 : decode cX7_drive 117 = .ok (.aload_n 0, 1) := by decide +kernel
theorem dX7_drive_118 : decode cX7_drive 118 = .ok (.getfield 113, 3) := by decide +kernel
theorem dX7_drive_121 : decode cX7_drive 121 = .ok (.if_icmp .ge 29, 3) := by decide +kernel
theorem dX7_drive_124 : decode cX7_drive 124 = .ok (.aload_n 0, 1) := by decide +kernel
theorem dX7_drive_125 : decode cX7_drive 125 = .ok (.getfield 32, 3) := by decide +kernel
theorem dX7_drive_128 : decode cX7_drive 128 = .ok (.bipush 60, 2) := by decide +kernel
theorem dX7_drive_130 : decode cX7_drive 130 = .ok (.iload 6, 2) := by decide +kernel
theorem dX7_drive_132 : decode cX7_drive 132 = .ok (.imul, 1) := by decide +kernel
theorem dX7_drive_133 : decode cX7_drive 133 = .ok (.iload 7, 2) := by decide +kernel
theorem dX7_drive_135 : decode cX7_drive 135 = .ok (.iadd, 1) := by decide +kernel
theorem dX7_drive_136 : decode cX7_drive 136 = .ok (.aload_n 0, 1) := by decide +kernel
theorem dX7_drive_137 : decode cX7_drive 137 = .ok (.getfield 28, 3) := by decide +kernel
theorem dX7_drive_140 : decode cX7_drive 140 = .ok (.iload 7, 2) := by decide +kernel
theorem dX7_drive_142 : decode cX7_drive 142 = .ok (.caload, 1) := by decide +kernel
theorem dX7_drive_143 : decode cX7_drive 143 = .ok (.castore, 1) := by decide +kernel
theorem dX7_drive_144 : decode cX7_drive 144 = .ok (.iinc 7 1, 3) := by decide +kernel
theorem dX7_drive_147 : decode cX7_drive 147 = .ok (.goto (-32), 3) := by decide +kernel
theorem dX7_drive_150 : decode cX7_drive 150 = .ok (.aload_n 0, 1) := by decide +kernel
theorem dX7_drive_151 : decode cX7_drive 151 = .ok (.getfield 44, 3) := by decide +kernel
theorem dX7_drive_154 : decode cX7_drive 154 = .ok (.iload 6, 2) := by decide +kernel
theorem dX7_drive_156 : decode cX7_drive 156 = .ok (.iload_n 1, 1) := by decide +kernel
theorem dX7_drive_157 : decode cX7_drive 157 = .ok (.iastore, 1) := by decide +kernel
theorem dX7_drive_158 : decode cX7_drive 158 = .ok (.aload_n 0, 1) := by decide +kernel
theorem dX7_drive_159 : decode cX7_drive 159 = .ok (.getfield 47, 3) := by decide +kernel
theorem dX7_drive_162 : decode cX7_drive 162 = .ok (.iload 6, 2) := by decide +kernel
theorem dX7_drive_164 : decode cX7_drive 164 = .ok (.iload_n 2, 1) := by decide +kernel
theorem dX7_drive_165 : decode cX7_drive 165 = .ok (.iastore, 1) := by decide +kernel
theorem dX7_drive_166 : decode cX7_drive 166 = .ok (.aload_n 0, 1) := by decide +kernel
theorem dX7_drive_167 : decode cX7_drive 167 = .ok (.getfield 50, 3) := by decide +kernel
theorem dX7_drive_170 : decode cX7_drive 170 = .ok (.iload 6, 2) := by decide +kernel
theorem dX7_drive_172 : decode cX7_drive 172 = .ok (.iload_n 3, 1) := by decide +kernel
theorem dX7_drive_173 : decode cX7_drive 173 = .ok (.iastore, 1) := by decide +kernel
theorem dX7_drive_174 : decode cX7_drive 174 = .ok (.aload_n 0, 1) := by decide +kernel
theorem dX7_drive_175 : decode cX7_drive 175 = .ok (.getfield 53, 3) := by decide +kernel
theorem dX7_drive_178 : decode cX7_drive 178 = .ok (.iload 6, 2) := by decide +kernel
theorem dX7_drive_180 : decode cX7_drive 180 = .ok (.iload 4, 2) := by decide +kernel
theorem dX7_drive_182 : decode cX7_drive 182 = .ok (.iastore, 1) := by decide +kernel
theorem dX7_drive_183 : decode cX7_drive 183 = .ok (.aload_n 0, 1) := by decide +kernel
theorem dX7_drive_184 : decode cX7_drive 184 = .ok (.getfield 56, 3) := by decide +kernel
theorem dX7_drive_187 : decode cX7_drive 187 = .ok (.iload 6, 2) := by decide +kernel
theorem dX7_drive_189 : decode cX7_drive 189 = .ok (.aload_n 0, 1) := by decide +kernel
theorem dX7_drive_190 : decode cX7_drive 190 = .ok (.getfield 147, 3) := by decide +kernel
theorem dX7_drive_193 : decode cX7_drive 193 = .ok (.ifCond .eq 27, 3) := by decide +kernel
theorem dX7_drive_196 : decode cX7_drive 196 = .ok (.aload_n 0, 1) := by decide +kernel
theorem dX7_drive_197 : decode cX7_drive 197 = .ok (.getfield 66, 3) := by decide +kernel
theorem dX7_drive_200 : decode cX7_drive 200 = .ok (.aload_n 0, 1) := by decide +kernel
theorem dX7_drive_201 : decode cX7_drive 201 = .ok (.getfield 150, 3) := by decide +kernel
theorem dX7_drive_204 : decode cX7_drive 204 = .ok (.iconst 1, 1) := by decide +kernel
theorem dX7_drive_205 : decode cX7_drive 205 = .ok (.isub, 1) := by decide +kernel
theorem dX7_drive_206 : decode cX7_drive 206 = .ok (.iaload, 1) := by decide +kernel
theorem dX7_drive_207 : decode cX7_drive 207 = .ok (.iload_n 2, 1) := by decide +kernel
theorem dX7_drive_208 : decode cX7_drive 208 = .ok (.if_icmp .ne 12, 3) := by decide +kernel
theorem dX7_drive_211 : decode cX7_drive 211 = .ok (.aload_n 0, 1) := by decide +kernel
theorem dX7_drive_212 : decode cX7_drive 212 = .ok (.getfield 150, 3) := by decide +kernel
theorem dX7_drive_215 : decode cX7_drive 215 = .ok (.iconst 1, 1) := by decide +kernel
theorem dX7_drive_216 : decode cX7_drive 216 = .ok (.isub, 1) := by decide +kernel
theorem dX7_drive_217 : decode cX7_drive 217 = .ok (.goto 4, 3) := by decide +kernel
theorem dX7_drive_220 : decode cX7_drive 220 = .ok (.iconst (-1), 1) := by decide +kernel
theorem dX7_drive_221 : decode cX7_drive 221 = .ok (.iastore, 1) := by decide +kernel
theorem dX7_drive_222 : decode cX7_drive 222 = .ok (.aload_n 0, 1) := by decide +kernel
theorem dX7_drive_223 : decode cX7_drive 223 = .ok (.getfield 59, 3) := by decide +kernel
theorem dX7_drive_226 : decode cX7_drive 226 = .ok (.iload 6, 2) := by decide +kernel
theorem dX7_drive_228 : decode cX7_drive 228 = .ok (.iload 4, 2) := by decide +kernel
theorem dX7_drive_230 : decode cX7_drive 230 = .ok (.iconst (-1), 1) := by decide +kernel
theorem dX7_drive_231 : decode cX7_drive 231 = .ok (.if_icmp .eq 13, 3) := by decide +kernel
theorem dX7_drive_234 : decode cX7_drive 234 = .ok (.aload_n 0, 1) := by decide +kernel
theorem dX7_drive_235 : decode cX7_drive 235 = .ok (.iload 4, 2) := by decide +kernel
theorem dX7_drive_237 : decode cX7_drive 237 = .ok (.invokevirtual 153, 3) := by decide +kernel
theorem dX7_drive_240 : decode cX7_drive 240 = .ok (.iconst 5, 1) := by decide +kernel
theorem dX7_drive_241 : decode cX7_drive 241 = .ok (.if_icmp .ne 7, 3) := by decide +kernel
theorem dX7_drive_244 : decode cX7_drive 244 = .ok (.iconst (-1), 1) := by decide +kernel
theorem dX7_drive_245 : decode cX7_drive 245 = .ok (.goto 5, 3) := by decide +kernel
theorem dX7_drive_248 : decode cX7_drive 248 = .ok (.iload 4, 2) := by decide +kernel
theorem dX7_drive_250 : decode cX7_drive 250 = .ok (.iastore, 1) := by decide +kernel
theorem dX7_drive_251 : decode cX7_drive 251 = .ok (.aload_n 0, 1) := by decide +kernel
theorem dX7_drive_252 : decode cX7_drive 252 = .ok (.dup, 1) := by decide +kernel
theorem dX7_drive_253 : decode cX7_drive 253 = .ok (.getfield 86, 3) := by decide +kernel
theorem dX7_drive_256 : decode cX7_drive 256 = .ok (.iconst 1, 1) := by decide +kernel
theorem dX7_drive_257 : decode cX7_drive 257 = .ok (.iadd, 1) := by decide +kernel
theorem dX7_drive_258 : decode cX7_drive 258 = .ok (.putfield 86, 3) := by decide +kernel
theorem dX7_drive_261 : decode cX7_drive 261 = .ok (.aload_n 0, 1) := by decide +kernel
theorem dX7_drive_262 : decode cX7_drive 262 = .ok (.iconst 0, 1) := by decide +kernel
theorem dX7_drive_263 : decode cX7_drive 263 = .ok (.putfield 104, 3) := by decide +kernel
theorem dX7_drive_266 : decode cX7_drive 266 = .ok (.iload 6, 2) := by decide +kernel
theorem dX7_drive_268 : decode cX7_drive 268 = .ok (.ireturn, 1) := by decide +kernel
theorem dX7_tryOut_0 : decode cX7_tryOut 0 = .ok (.aload_n 0, 1) := by decide +kernel
theorem dX7_tryOut_1 : decode cX7_tryOut 1 = .ok (.iload_n 1, 1) := by decide +kernel
theorem dX7_tryOut_2 : decode cX7_tryOut 2 = .ok (.invokevirtual 93, 3) := by decide +kernel
theorem dX7_tryOut_5 : decode cX7_tryOut 5 = .ok (.ifCond .ne 11, 3) := by decide +kernel
theorem dX7_tryOut_8 : decode cX7_tryOut 8 = .ok (.aload_n 0, 1) := by decide +kernel
theorem dX7_tryOut_9 : decode cX7_tryOut 9 = .ok (.iload_n 2, 1) := by decide +kernel
theorem dX7_tryOut_10 : decode cX7_tryOut 10 = .ok (.invokevirtual 134, 3) := by decide +kernel
theorem dX7_tryOut_13 : decode cX7_tryOut 13 = .ok (.ifCond .eq 7, 3) := by decide +kernel
theorem dX7_tryOut_16 : decode cX7_tryOut 16 = .ok (.iconst 1, 1) := by decide +kernel
theorem dX7_tryOut_17 : decode cX7_tryOut 17 = .ok (.goto 17, 3) := by decide +kernel
theorem dX7_tryOut_20 : decode cX7_tryOut 20 = .ok (.aload_n 0, 1) := by decide +kernel
theorem dX7_tryOut_21 : decode cX7_tryOut 21 = .ok (.iload_n 1, 1) := by decide +kernel
theorem dX7_tryOut_22 : decode cX7_tryOut 22 = .ok (.iload_n 2, 1) := by decide +kernel
theorem dX7_tryOut_23 : decode cX7_tryOut 23 = .ok (.invokevirtual 141, 3) := by decide +kernel
theorem dX7_tryOut_26 : decode cX7_tryOut 26 = .ok (.ifCond .ne 7, 3) := by decide +kernel
theorem dX7_tryOut_29 : decode cX7_tryOut 29 = .ok (.iconst 2, 1) := by decide +kernel
theorem dX7_tryOut_30 : decode cX7_tryOut 30 = .ok (.goto 4, 3) := by decide +kernel
theorem dX7_tryOut_33 : decode cX7_tryOut 33 = .ok (.iconst 0, 1) := by decide +kernel
theorem dX7_tryOut_34 : decode cX7_tryOut 34 = .ok (.istore_n 3, 1) := by decide +kernel
theorem dX7_tryOut_35 : decode cX7_tryOut 35 = .ok (.aload_n 0, 1) := by decide +kernel
theorem dX7_tryOut_36 : decode cX7_tryOut 36 = .ok (.iload_n 3, 1) := by decide +kernel
theorem dX7_tryOut_37 : decode cX7_tryOut 37 = .ok (.invokevirtual 89, 3) := by decide +kernel
theorem dX7_tryOut_40 : decode cX7_tryOut 40 = .ok (.ifCond .eq 7, 3) := by decide +kernel
theorem dX7_tryOut_43 : decode cX7_tryOut 43 = .ok (.iconst 0, 1) := by decide +kernel
theorem dX7_tryOut_44 : decode cX7_tryOut 44 = .ok (.goto 8, 3) := by decide +kernel
theorem dX7_tryOut_47 : decode cX7_tryOut 47 = .ok (.aload_n 0, 1) := by decide +kernel
theorem dX7_tryOut_48 : decode cX7_tryOut 48 = .ok (.iload_n 1, 1) := by decide +kernel
theorem dX7_tryOut_49 : decode cX7_tryOut 49 = .ok (.invokevirtual 144, 3) := by decide +kernel
theorem dX7_tryOut_52 : decode cX7_tryOut 52 = .ok (.ireturn, 1) := by decide +kernel
theorem dX7_laps_0 : decode cX7_laps 0 = .ok (.aload_n 0, 1) := by decide +kernel
theorem dX7_laps_1 : decode cX7_laps 1 = .ok (.iconst 0, 1) := by decide +kernel
theorem dX7_laps_2 : decode cX7_laps 2 = .ok (.putfield 72, 3) := by decide +kernel
theorem dX7_laps_5 : decode cX7_laps 5 = .ok (.aload_n 0, 1) := by decide +kernel
theorem dX7_laps_6 : decode cX7_laps 6 = .ok (.getfield 86, 3) := by decide +kernel
theorem dX7_laps_9 : decode cX7_laps 9 = .ok (.ireturn, 1) := by decide +kernel
theorem dX7_countOf_0 : decode cX7_countOf 0 = .ok (.aload_n 0, 1) := by decide +kernel
theorem dX7_countOf_1 : decode cX7_countOf 1 = .ok (.getfield 38, 3) := by decide +kernel
theorem dX7_countOf_4 : decode cX7_countOf 4 = .ok (.iload_n 1, 1) := by decide +kernel
theorem dX7_countOf_5 : decode cX7_countOf 5 = .ok (.iaload, 1) := by decide +kernel
theorem dX7_countOf_6 : decode cX7_countOf 6 = .ok (.aload_n 0, 1) := by decide +kernel
theorem dX7_countOf_7 : decode cX7_countOf 7 = .ok (.getfield 41, 3) := by decide +kernel
theorem dX7_countOf_10 : decode cX7_countOf 10 = .ok (.iload_n 1, 1) := by decide +kernel
theorem dX7_countOf_11 : decode cX7_countOf 11 = .ok (.iaload, 1) := by decide +kernel
theorem dX7_countOf_12 : decode cX7_countOf 12 = .ok (.iadd, 1) := by decide +kernel
theorem dX7_countOf_13 : decode cX7_countOf 13 = .ok (.ireturn, 1) := by decide +kernel
theorem dX7_time_0 : decode cX7_time 0 = .ok (.aload_n 0, 1) := by decide +kernel
theorem dX7_time_1 : decode cX7_time 1 = .ok (.aload_n 0, 1) := by decide +kernel
theorem dX7_time_2 : decode cX7_time 2 = .ok (.iload_n 1, 1) := by decide +kernel
theorem dX7_time_3 : decode cX7_time 3 = .ok (.invokevirtual 131, 3) := by decide +kernel
theorem dX7_time_6 : decode cX7_time 6 = .ok (.ifCond .eq 7, 3) := by decide +kernel
theorem dX7_time_9 : decode cX7_time 9 = .ok (.iconst 1, 1) := by decide +kernel
theorem dX7_time_10 : decode cX7_time 10 = .ok (.goto 4, 3) := by decide +kernel
theorem dX7_time_13 : decode cX7_time 13 = .ok (.iconst 0, 1) := by decide +kernel
theorem dX7_time_14 : decode cX7_time 14 = .ok (.invokevirtual 89, 3) := by decide +kernel
theorem dX7_time_17 : decode cX7_time 17 = .ok (.ifCond .eq 7, 3) := by decide +kernel
theorem dX7_time_20 : decode cX7_time 20 = .ok (.iconst 0, 1) := by decide +kernel
theorem dX7_time_21 : decode cX7_time 21 = .ok (.goto 21, 3) := by decide +kernel
theorem dX7_time_24 : decode cX7_time 24 = .ok (.iload_n 2, 1) := by decide +kernel
theorem dX7_time_25 : decode cX7_time 25 = .ok (.ifCond .eq 11, 3) := by decide +kernel
theorem dX7_time_28 : decode cX7_time 28 = .ok (.aload_n 0, 1) := by decide +kernel
theorem dX7_time_29 : decode cX7_time 29 = .ok (.iload_n 1, 1) := by decide +kernel
theorem dX7_time_30 : decode cX7_time 30 = .ok (.invokevirtual 156, 3) := by decide +kernel
theorem dX7_time_33 : decode cX7_time 33 = .ok (.goto 9, 3) := by decide +kernel
theorem dX7_time_36 : decode cX7_time 36 = .ok (.aload_n 0, 1) := by decide +kernel
theorem dX7_time_37 : decode cX7_time 37 = .ok (.getfield 38, 3) := by decide +kernel
theorem dX7_time_40 : decode cX7_time 40 = .ok (.iload_n 1, 1) := by decide +kernel
theorem dX7_time_41 : decode cX7_time 41 = .ok (.iaload, 1) := by decide +kernel
theorem dX7_time_42 : decode cX7_time 42 = .ok (.ireturn, 1) := by decide +kernel
theorem dX7_ticks_0 : decode cX7_ticks 0 = .ok (.aload_n 0, 1) := by decide +kernel
theorem dX7_ticks_1 : decode cX7_ticks 1 = .ok (.aload_n 0, 1) := by decide +kernel
theorem dX7_ticks_2 : decode cX7_ticks 2 = .ok (.iload_n 1, 1) := by decide +kernel
theorem dX7_ticks_3 : decode cX7_ticks 3 = .ok (.invokevirtual 131, 3) := by decide +kernel
theorem dX7_ticks_6 : decode cX7_ticks 6 = .ok (.ifCond .eq 7, 3) := by decide +kernel
theorem dX7_ticks_9 : decode cX7_ticks 9 = .ok (.iconst 1, 1) := by decide +kernel
theorem dX7_ticks_10 : decode cX7_ticks 10 = .ok (.goto 4, 3) := by decide +kernel
theorem dX7_ticks_13 : decode cX7_ticks 13 = .ok (.iconst 0, 1) := by decide +kernel
theorem dX7_ticks_14 : decode cX7_ticks 14 = .ok (.invokevirtual 89, 3) := by decide +kernel
theorem dX7_ticks_17 : decode cX7_ticks 17 = .ok (.ifCond .eq 7, 3) := by decide +kernel
theorem dX7_ticks_20 : decode cX7_ticks 20 = .ok (.iconst 0, 1) := by decide +kernel
theorem dX7_ticks_21 : decode cX7_ticks 21 = .ok (.goto 9, 3) := by decide +kernel
theorem dX7_ticks_24 : decode cX7_ticks 24 = .ok (.aload_n 0, 1) := by decide +kernel
theorem dX7_ticks_25 : decode cX7_ticks 25 = .ok (.getfield 35, 3) := by decide +kernel
theorem dX7_ticks_28 : decode cX7_ticks 28 = .ok (.iload_n 1, 1) := by decide +kernel
theorem dX7_ticks_29 : decode cX7_ticks 29 = .ok (.iaload, 1) := by decide +kernel
theorem dX7_ticks_30 : decode cX7_ticks 30 = .ok (.ireturn, 1) := by decide +kernel
theorem dX7_inputAt_0 : decode cX7_inputAt 0 = .ok (.aload_n 0, 1) := by decide +kernel
theorem dX7_inputAt_1 : decode cX7_inputAt 1 = .ok (.aload_n 0, 1) := by decide +kernel
theorem dX7_inputAt_2 : decode cX7_inputAt 2 = .ok (.iload_n 1, 1) := by decide +kernel
theorem dX7_inputAt_3 : decode cX7_inputAt 3 = .ok (.invokevirtual 131, 3) := by decide +kernel
theorem dX7_inputAt_6 : decode cX7_inputAt 6 = .ok (.ifCond .eq 7, 3) := by decide +kernel
theorem dX7_inputAt_9 : decode cX7_inputAt 9 = .ok (.iconst 1, 1) := by decide +kernel
theorem dX7_inputAt_10 : decode cX7_inputAt 10 = .ok (.goto 24, 3) := by decide +kernel
theorem dX7_inputAt_13 : decode cX7_inputAt 13 = .ok (.iload_n 2, 1) := by decide +kernel
theorem dX7_inputAt_14 : decode cX7_inputAt 14 = .ok (.iconst 0, 1) := by decide +kernel
theorem dX7_inputAt_15 : decode cX7_inputAt 15 = .ok (.aload_n 0, 1) := by decide +kernel
theorem dX7_inputAt_16 : decode cX7_inputAt 16 = .ok (.getfield 35, 3) := by decide +kernel
theorem dX7_inputAt_19 : decode cX7_inputAt 19 = .ok (.iload_n 1, 1) := by decide +kernel
theorem dX7_inputAt_20 : decode cX7_inputAt 20 = .ok (.iaload, 1) := by decide +kernel
theorem dX7_inputAt_21 : decode cX7_inputAt 21 = .ok (.iconst 1, 1) := by decide +kernel
theorem dX7_inputAt_22 : decode cX7_inputAt 22 = .ok (.isub, 1) := by decide +kernel
theorem dX7_inputAt_23 : decode cX7_inputAt 23 = .ok (.invokestatic 79, 3) := by decide +kernel
theorem dX7_inputAt_26 : decode cX7_inputAt 26 = .ok (.ifCond .ne 7, 3) := by decide +kernel
theorem dX7_inputAt_29 : decode cX7_inputAt 29 = .ok (.iconst 2, 1) := by decide +kernel
theorem dX7_inputAt_30 : decode cX7_inputAt 30 = .ok (.goto 4, 3) := by decide +kernel
theorem dX7_inputAt_33 : decode cX7_inputAt 33 = .ok (.iconst 0, 1) := by decide +kernel
theorem dX7_inputAt_34 : decode cX7_inputAt 34 = .ok (.invokevirtual 89, 3) := by decide +kernel
theorem dX7_inputAt_37 : decode cX7_inputAt 37 = .ok (.ifCond .eq 8, 3) := by decide +kernel
theorem dX7_inputAt_40 : decode cX7_inputAt 40 = .ok (.bipush 32, 2) := by decide +kernel
theorem dX7_inputAt_42 : decode cX7_inputAt 42 = .ok (.goto 14, 3) := by decide +kernel
theorem dX7_inputAt_45 : decode cX7_inputAt 45 = .ok (.aload_n 0, 1) := by decide +kernel
theorem dX7_inputAt_46 : decode cX7_inputAt 46 = .ok (.getfield 32, 3) := by decide +kernel
theorem dX7_inputAt_49 : decode cX7_inputAt 49 = .ok (.bipush 60, 2) := by decide +kernel
theorem dX7_inputAt_51 : decode cX7_inputAt 51 = .ok (.iload_n 1, 1) := by decide +kernel
theorem dX7_inputAt_52 : decode cX7_inputAt 52 = .ok (.imul, 1) := by decide +kernel
theorem dX7_inputAt_53 : decode cX7_inputAt 53 = .ok (.iload_n 2, 1) := by decide +kernel
theorem dX7_inputAt_54 : decode cX7_inputAt 54 = .ok (.iadd, 1) := by decide +kernel
theorem dX7_inputAt_55 : decode cX7_inputAt 55 = .ok (.caload, 1) := by decide +kernel
theorem dX7_inputAt_56 : decode cX7_inputAt 56 = .ok (.ireturn, 1) := by decide +kernel
theorem dX7_replay_0 : decode cX7_replay 0 = .ok (.aload_n 0, 1) := by decide +kernel
theorem dX7_replay_1 : decode cX7_replay 1 = .ok (.aload_n 0, 1) := by decide +kernel
theorem dX7_replay_2 : decode cX7_replay 2 = .ok (.iload_n 1, 1) := by decide +kernel
theorem dX7_replay_3 : decode cX7_replay 3 = .ok (.invokevirtual 131, 3) := by decide +kernel
theorem dX7_replay_6 : decode cX7_replay 6 = .ok (.ifCond .eq 7, 3) := by decide +kernel
theorem dX7_replay_9 : decode cX7_replay 9 = .ok (.iconst 1, 1) := by decide +kernel
theorem dX7_replay_10 : decode cX7_replay 10 = .ok (.goto 22, 3) := by decide +kernel
theorem dX7_replay_13 : decode cX7_replay 13 = .ok (.iload_n 2, 1) := by decide +kernel
theorem dX7_replay_14 : decode cX7_replay 14 = .ok (.iconst 0, 1) := by decide +kernel
theorem dX7_replay_15 : decode cX7_replay 15 = .ok (.aload_n 0, 1) := by decide +kernel
theorem dX7_replay_16 : decode cX7_replay 16 = .ok (.getfield 35, 3) := by decide +kernel
theorem dX7_replay_19 : decode cX7_replay 19 = .ok (.iload_n 1, 1) := by decide +kernel
theorem dX7_replay_20 : decode cX7_replay 20 = .ok (.iaload, 1) := by decide +kernel
theorem dX7_replay_21 : decode cX7_replay 21 = .ok (.invokestatic 79, 3) := by decide +kernel
theorem dX7_replay_24 : decode cX7_replay 24 = .ok (.ifCond .ne 7, 3) := by decide +kernel
theorem dX7_replay_27 : decode cX7_replay 27 = .ok (.iconst 2, 1) := by decide +kernel
theorem dX7_replay_28 : decode cX7_replay 28 = .ok (.goto 4, 3) := by decide +kernel
theorem dX7_replay_31 : decode cX7_replay 31 = .ok (.iconst 0, 1) := by decide +kernel
theorem dX7_replay_32 : decode cX7_replay 32 = .ok (.invokevirtual 89, 3) := by decide +kernel
theorem dX7_replay_35 : decode cX7_replay 35 = .ok (.ifCond .eq 5, 3) := by decide +kernel
theorem dX7_replay_38 : decode cX7_replay 38 = .ok (.iconst 0, 1) := by decide +kernel
theorem dX7_replay_39 : decode cX7_replay 39 = .ok (.ireturn, 1) := by decide +kernel
theorem dX7_replay_40 : decode cX7_replay 40 = .ok (.aload_n 0, 1) := by decide +kernel
theorem dX7_replay_41 : decode cX7_replay 41 = .ok (.invokevirtual 120, 3) := by decide +kernel
theorem dX7_replay_44 : decode cX7_replay 44 = .ok (.aload_n 0, 1) := by decide +kernel
theorem dX7_replay_45 : decode cX7_replay 45 = .ok (.getfield 113, 3) := by decide +kernel
theorem dX7_replay_48 : decode cX7_replay 48 = .ok (.iload_n 2, 1) := by decide +kernel
theorem dX7_replay_49 : decode cX7_replay 49 = .ok (.if_icmp .ge 36, 3) := by decide +kernel
theorem dX7_replay_52 : decode cX7_replay 52 = .ok (.aload_n 0, 1) := by decide +kernel
theorem dX7_replay_53 : decode cX7_replay 53 = .ok (.aload_n 0, 1) := by decide +kernel
theorem dX7_replay_54 : decode cX7_replay 54 = .ok (.getfield 47, 3) := by decide +kernel
theorem dX7_replay_57 : decode cX7_replay 57 = .ok (.iload_n 1, 1) := by decide +kernel
theorem dX7_replay_58 : decode cX7_replay 58 = .ok (.iaload, 1) := by decide +kernel
theorem dX7_replay_59 : decode cX7_replay 59 = .ok (.aload_n 0, 1) := by decide +kernel
theorem dX7_replay_60 : decode cX7_replay 60 = .ok (.getfield 50, 3) := by decide +kernel
theorem dX7_replay_63 : decode cX7_replay 63 = .ok (.iload_n 1, 1) := by decide +kernel
theorem dX7_replay_64 : decode cX7_replay 64 = .ok (.iaload, 1) := by decide +kernel
theorem dX7_replay_65 : decode cX7_replay 65 = .ok (.aload_n 0, 1) := by decide +kernel
theorem dX7_replay_66 : decode cX7_replay 66 = .ok (.getfield 32, 3) := by decide +kernel
theorem dX7_replay_69 : decode cX7_replay 69 = .ok (.bipush 60, 2) := by decide +kernel
theorem dX7_replay_71 : decode cX7_replay 71 = .ok (.iload_n 1, 1) := by decide +kernel
theorem dX7_replay_72 : decode cX7_replay 72 = .ok (.imul, 1) := by decide +kernel
theorem dX7_replay_73 : decode cX7_replay 73 = .ok (.aload_n 0, 1) := by decide +kernel
theorem dX7_replay_74 : decode cX7_replay 74 = .ok (.getfield 113, 3) := by decide +kernel
theorem dX7_replay_77 : decode cX7_replay 77 = .ok (.iadd, 1) := by decide +kernel
theorem dX7_replay_78 : decode cX7_replay 78 = .ok (.caload, 1) := by decide +kernel
theorem dX7_replay_79 : decode cX7_replay 79 = .ok (.invokevirtual 123, 3) := by decide +kernel
theorem dX7_replay_82 : decode cX7_replay 82 = .ok (.goto (-38), 3) := by decide +kernel
theorem dX7_replay_85 : decode cX7_replay 85 = .ok (.iload_n 3, 1) := by decide +kernel
theorem dX7_replay_86 : decode cX7_replay 86 = .ok (.ifCond .eq 10, 3) := by decide +kernel
theorem dX7_replay_89 : decode cX7_replay 89 = .ok (.aload_n 0, 1) := by decide +kernel
theorem dX7_replay_90 : decode cX7_replay 90 = .ok (.getfield 110, 3) := by decide +kernel
theorem dX7_replay_93 : decode cX7_replay 93 = .ok (.goto 7, 3) := by decide +kernel
theorem dX7_replay_96 : decode cX7_replay 96 = .ok (.aload_n 0, 1) := by decide +kernel
theorem dX7_replay_97 : decode cX7_replay 97 = .ok (.getfield 107, 3) := by decide +kernel
theorem dX7_replay_100 : decode cX7_replay 100 = .ok (.ireturn, 1) := by decide +kernel
theorem dX7_of_0 : decode cX7_of 0 = .ok (.iload_n 2, 1) := by decide +kernel
theorem dX7_of_1 : decode cX7_of 1 = .ok (.bipush 100, 2) := by decide +kernel
theorem dX7_of_3 : decode cX7_of 3 = .ok (.if_icmp .eq 27, 3) := by decide +kernel
theorem dX7_of_6 : decode cX7_of 6 = .ok (.iload_n 2, 1) := by decide +kernel
theorem dX7_of_7 : decode cX7_of 7 = .ok (.bipush 116, 2) := by decide +kernel
theorem dX7_of_9 : decode cX7_of 9 = .ok (.if_icmp .eq 21, 3) := by decide +kernel
theorem dX7_of_12 : decode cX7_of 12 = .ok (.iload_n 2, 1) := by decide +kernel
theorem dX7_of_13 : decode cX7_of 13 = .ok (.bipush 99, 2) := by decide +kernel
theorem dX7_of_15 : decode cX7_of 15 = .ok (.if_icmp .eq 15, 3) := by decide +kernel
theorem dX7_of_18 : decode cX7_of 18 = .ok (.iload_n 2, 1) := by decide +kernel
theorem dX7_of_19 : decode cX7_of 19 = .ok (.bipush 103, 2) := by decide +kernel
theorem dX7_of_21 : decode cX7_of 21 = .ok (.if_icmp .eq 9, 3) := by decide +kernel
theorem dX7_of_24 : decode cX7_of 24 = .ok (.iload_n 2, 1) := by decide +kernel
theorem dX7_of_25 : decode cX7_of 25 = .ok (.bipush 114, 2) := by decide +kernel
theorem dX7_of_27 : decode cX7_of 27 = .ok (.if_icmp .ne 7, 3) := by decide +kernel
theorem dX7_of_30 : decode cX7_of 30 = .ok (.iconst 1, 1) := by decide +kernel
theorem dX7_of_31 : decode cX7_of 31 = .ok (.goto 4, 3) := by decide +kernel
theorem dX7_of_34 : decode cX7_of 34 = .ok (.iconst 0, 1) := by decide +kernel
theorem dX7_of_35 : decode cX7_of 35 = .ok (.istore_n 3, 1) := by decide +kernel
theorem dX7_of_36 : decode cX7_of 36 = .ok (.aload_n 0, 1) := by decide +kernel
theorem dX7_of_37 : decode cX7_of 37 = .ok (.aload_n 0, 1) := by decide +kernel
theorem dX7_of_38 : decode cX7_of 38 = .ok (.iload_n 1, 1) := by decide +kernel
theorem dX7_of_39 : decode cX7_of 39 = .ok (.invokevirtual 131, 3) := by decide +kernel
theorem dX7_of_42 : decode cX7_of 42 = .ok (.ifCond .eq 7, 3) := by decide +kernel
theorem dX7_of_45 : decode cX7_of 45 = .ok (.iconst 1, 1) := by decide +kernel
theorem dX7_of_46 : decode cX7_of 46 = .ok (.goto 12, 3) := by decide +kernel
theorem dX7_of_49 : decode cX7_of 49 = .ok (.iload_n 3, 1) := by decide +kernel
theorem dX7_of_50 : decode cX7_of 50 = .ok (.ifCond .ne 7, 3) := by decide +kernel
theorem dX7_of_53 : decode cX7_of 53 = .ok (.iconst 2, 1) := by decide +kernel
theorem dX7_of_54 : decode cX7_of 54 = .ok (.goto 4, 3) := by decide +kernel
theorem dX7_of_57 : decode cX7_of 57 = .ok (.iconst 0, 1) := by decide +kernel
theorem dX7_of_58 : decode cX7_of 58 = .ok (.invokevirtual 89, 3) := by decide +kernel
theorem dX7_of_61 : decode cX7_of 61 = .ok (.ifCond .eq 5, 3) := by decide +kernel
theorem dX7_of_64 : decode cX7_of 64 = .ok (.iconst 0, 1) := by decide +kernel
theorem dX7_of_65 : decode cX7_of 65 = .ok (.ireturn, 1) := by decide +kernel
theorem dX7_of_66 : decode cX7_of 66 = .ok (.iload_n 2, 1) := by decide +kernel
theorem dX7_of_67 : decode cX7_of 67 = .ok (.bipush 100, 2) := by decide +kernel
theorem dX7_of_69 : decode cX7_of 69 = .ok (.if_icmp .ne 12, 3) := by decide +kernel
theorem dX7_of_72 : decode cX7_of 72 = .ok (.aload_n 0, 1) := by decide +kernel
theorem dX7_of_73 : decode cX7_of 73 = .ok (.getfield 44, 3) := by decide +kernel
theorem dX7_of_76 : decode cX7_of 76 = .ok (.iload_n 1, 1) := by decide +kernel
theorem dX7_of_77 : decode cX7_of 77 = .ok (.iaload, 1) := by decide +kernel
theorem dX7_of_78 : decode cX7_of 78 = .ok (.goto 54, 3) := by decide +kernel
theorem dX7_of_81 : decode cX7_of 81 = .ok (.iload_n 2, 1) := by decide +kernel
theorem dX7_of_82 : decode cX7_of 82 = .ok (.bipush 116, 2) := by decide +kernel
theorem dX7_of_84 : decode cX7_of 84 = .ok (.if_icmp .ne 12, 3) := by decide +kernel
theorem dX7_of_87 : decode cX7_of 87 = .ok (.aload_n 0, 1) := by decide +kernel
theorem dX7_of_88 : decode cX7_of 88 = .ok (.getfield 47, 3) := by decide +kernel
theorem dX7_of_91 : decode cX7_of 91 = .ok (.iload_n 1, 1) := by decide +kernel
theorem dX7_of_92 : decode cX7_of 92 = .ok (.iaload, 1) := by decide +kernel
theorem dX7_of_93 : decode cX7_of 93 = .ok (.goto 39, 3) := by decide +kernel
theorem dX7_of_96 : decode cX7_of 96 = .ok (.iload_n 2, 1) := by decide +kernel
theorem dX7_of_97 : decode cX7_of 97 = .ok (.bipush 99, 2) := by decide +kernel
theorem dX7_of_99 : decode cX7_of 99 = .ok (.if_icmp .ne 12, 3) := by decide +kernel
theorem dX7_of_102 : decode cX7_of 102 = .ok (.aload_n 0, 1) := by decide +kernel
theorem dX7_of_103 : decode cX7_of 103 = .ok (.getfield 50, 3) := by decide +kernel
theorem dX7_of_106 : decode cX7_of 106 = .ok (.iload_n 1, 1) := by decide +kernel
theorem dX7_of_107 : decode cX7_of 107 = .ok (.iaload, 1) := by decide +kernel
theorem dX7_of_108 : decode cX7_of 108 = .ok (.goto 24, 3) := by decide +kernel
theorem dX7_of_111 : decode cX7_of 111 = .ok (.iload_n 2, 1) := by decide +kernel
theorem dX7_of_112 : decode cX7_of 112 = .ok (.bipush 103, 2) := by decide +kernel
theorem dX7_of_114 : decode cX7_of 114 = .ok (.if_icmp .ne 12, 3) := by decide +kernel
theorem dX7_of_117 : decode cX7_of 117 = .ok (.aload_n 0, 1) := by decide +kernel
theorem dX7_of_118 : decode cX7_of 118 = .ok (.getfield 53, 3) := by decide +kernel
theorem dX7_of_121 : decode cX7_of 121 = .ok (.iload_n 1, 1) := by decide +kernel
theorem dX7_of_122 : decode cX7_of 122 = .ok (.iaload, 1) := by decide +kernel
theorem dX7_of_123 : decode cX7_of 123 = .ok (.goto 9, 3) := by decide +kernel
theorem dX7_of_126 : decode cX7_of 126 = .ok (.aload_n 0, 1) := by decide +kernel
theorem dX7_of_127 : decode cX7_of 127 = .ok (.getfield 56, 3) := by decide +kernel
theorem dX7_of_130 : decode cX7_of 130 = .ok (.iload_n 1, 1) := by decide +kernel
theorem dX7_of_131 : decode cX7_of 131 = .ok (.iaload, 1) := by decide +kernel
theorem dX7_of_132 : decode cX7_of 132 = .ok (.ireturn, 1) := by decide +kernel
theorem dX7_beats_0 : decode cX7_beats 0 = .ok (.aload_n 0, 1) := by decide +kernel
theorem dX7_beats_1 : decode cX7_beats 1 = .ok (.aload_n 0, 1) := by decide +kernel
theorem dX7_beats_2 : decode cX7_beats 2 = .ok (.iload_n 1, 1) := by decide +kernel
theorem dX7_beats_3 : decode cX7_beats 3 = .ok (.invokevirtual 131, 3) := by decide +kernel
theorem dX7_beats_6 : decode cX7_beats 6 = .ok (.ifCond .eq 7, 3) := by decide +kernel
theorem dX7_beats_9 : decode cX7_beats 9 = .ok (.iconst 1, 1) := by decide +kernel
theorem dX7_beats_10 : decode cX7_beats 10 = .ok (.goto 18, 3) := by decide +kernel
theorem dX7_beats_13 : decode cX7_beats 13 = .ok (.aload_n 0, 1) := by decide +kernel
theorem dX7_beats_14 : decode cX7_beats 14 = .ok (.getfield 53, 3) := by decide +kernel
theorem dX7_beats_17 : decode cX7_beats 17 = .ok (.iload_n 1, 1) := by decide +kernel
theorem dX7_beats_18 : decode cX7_beats 18 = .ok (.iaload, 1) := by decide +kernel
theorem dX7_beats_19 : decode cX7_beats 19 = .ok (.iconst (-1), 1) := by decide +kernel
theorem dX7_beats_20 : decode cX7_beats 20 = .ok (.if_icmp .ne 7, 3) := by decide +kernel
theorem dX7_beats_23 : decode cX7_beats 23 = .ok (.iconst 2, 1) := by decide +kernel
theorem dX7_beats_24 : decode cX7_beats 24 = .ok (.goto 4, 3) := by decide +kernel
theorem dX7_beats_27 : decode cX7_beats 27 = .ok (.iconst 0, 1) := by decide +kernel
theorem dX7_beats_28 : decode cX7_beats 28 = .ok (.invokevirtual 89, 3) := by decide +kernel
theorem dX7_beats_31 : decode cX7_beats 31 = .ok (.ifCond .ne 25, 3) := by decide +kernel
theorem dX7_beats_34 : decode cX7_beats 34 = .ok (.aload_n 0, 1) := by decide +kernel
theorem dX7_beats_35 : decode cX7_beats 35 = .ok (.iload_n 1, 1) := by decide +kernel
theorem dX7_beats_36 : decode cX7_beats 36 = .ok (.invokevirtual 156, 3) := by decide +kernel
theorem dX7_beats_39 : decode cX7_beats 39 = .ok (.aload_n 0, 1) := by decide +kernel
theorem dX7_beats_40 : decode cX7_beats 40 = .ok (.aload_n 0, 1) := by decide +kernel
theorem dX7_beats_41 : decode cX7_beats 41 = .ok (.getfield 53, 3) := by decide +kernel
theorem dX7_beats_44 : decode cX7_beats 44 = .ok (.iload_n 1, 1) := by decide +kernel
theorem dX7_beats_45 : decode cX7_beats 45 = .ok (.iaload, 1) := by decide +kernel
theorem dX7_beats_46 : decode cX7_beats 46 = .ok (.invokevirtual 156, 3) := by decide +kernel
theorem dX7_beats_49 : decode cX7_beats 49 = .ok (.if_icmp .ge 7, 3) := by decide +kernel
theorem dX7_beats_52 : decode cX7_beats 52 = .ok (.iconst 1, 1) := by decide +kernel
theorem dX7_beats_53 : decode cX7_beats 53 = .ok (.goto 4, 3) := by decide +kernel
theorem dX7_beats_56 : decode cX7_beats 56 = .ok (.iconst 0, 1) := by decide +kernel
theorem dX7_beats_57 : decode cX7_beats 57 = .ok (.ireturn, 1) := by decide +kernel
theorem dX7_least_0 : decode cX7_least 0 = .ok (.iconst (-1), 1) := by decide +kernel
theorem dX7_least_1 : decode cX7_least 1 = .ok (.istore_n 2, 1) := by decide +kernel
theorem dX7_least_2 : decode cX7_least 2 = .ok (.iconst 0, 1) := by decide +kernel
theorem dX7_least_3 : decode cX7_least 3 = .ok (.istore_n 3, 1) := by decide +kernel
theorem dX7_least_4 : decode cX7_least 4 = .ok (.iload_n 3, 1) := by decide +kernel
theorem dX7_least_5 : decode cX7_least 5 = .ok (.aload_n 0, 1) := by decide +kernel
theorem dX7_least_6 : decode cX7_least 6 = .ok (.getfield 86, 3) := by decide +kernel
theorem dX7_least_9 : decode cX7_least 9 = .ok (.if_icmp .ge 64, 3) := by decide +kernel
theorem dX7_least_12 : decode cX7_least 12 = .ok (.aload_n 0, 1) := by decide +kernel
theorem dX7_least_13 : decode cX7_least 13 = .ok (.getfield 47, 3) := by decide +kernel
theorem dX7_least_16 : decode cX7_least 16 = .ok (.iload_n 3, 1) := by decide +kernel
theorem dX7_least_17 : decode cX7_least 17 = .ok (.iaload, 1) := by decide +kernel
theorem dX7_least_18 : decode cX7_least 18 = .ok (.iload_n 1, 1) := by decide +kernel
theorem dX7_least_19 : decode cX7_least 19 = .ok (.if_icmp .ne 16, 3) := by decide +kernel
theorem dX7_least_22 : decode cX7_least 22 = .ok (.aload_n 0, 1) := by decide +kernel
theorem dX7_least_23 : decode cX7_least 23 = .ok (.getfield 62, 3) := by decide +kernel
theorem dX7_least_26 : decode cX7_least 26 = .ok (.iload_n 3, 1) := by decide +kernel
theorem dX7_least_27 : decode cX7_least 27 = .ok (.baload, 1) := by decide +kernel
theorem dX7_least_28 : decode cX7_least 28 = .ok (.ifCond .ne 7, 3) := by decide +kernel
theorem dX7_least_31 : decode cX7_least 31 = .ok (.iconst 1, 1) := by decide +kernel
theorem dX7_least_32 : decode cX7_least 32 = .ok (.goto 4, 3) := by decide +kernel
theorem dX7_least_35 : decode cX7_least 35 = .ok (.iconst 0, 1) := by decide +kernel
theorem dX7_least_36 : decode cX7_least 36 = .ok (.istore 4, 2) := by decide +kernel
theorem dX7_least_38 : decode cX7_least 38 = .ok (.iload 4, 2) := by decide +kernel
theorem dX7_least_40 : decode cX7_least 40 = .ok (.ifCond .eq 25, 3) := by decide +kernel
theorem dX7_least_43 : decode cX7_least 43 = .ok (.iload_n 2, 1) := by decide +kernel
theorem dX7_least_44 : decode cX7_least 44 = .ok (.iconst (-1), 1) := by decide +kernel
theorem dX7_least_45 : decode cX7_least 45 = .ok (.if_icmp .eq 16, 3) := by decide +kernel
theorem dX7_least_48 : decode cX7_least 48 = .ok (.aload_n 0, 1) := by decide +kernel
theorem dX7_least_49 : decode cX7_least 49 = .ok (.iload_n 3, 1) := by decide +kernel
theorem dX7_least_50 : decode cX7_least 50 = .ok (.invokevirtual 156, 3) := by decide +kernel
theorem dX7_least_53 : decode cX7_least 53 = .ok (.aload_n 0, 1) := by decide +kernel
theorem dX7_least_54 : decode cX7_least 54 = .ok (.iload_n 2, 1) := by decide +kernel
theorem dX7_least_55 : decode cX7_least 55 = .ok (.invokevirtual 156, 3) := by decide +kernel
theorem dX7_least_58 : decode cX7_least 58 = .ok (.if_icmp .ge 7, 3) := by decide +kernel
theorem dX7_least_61 : decode cX7_least 61 = .ok (.iload_n 3, 1) := by decide +kernel
theorem dX7_least_62 : decode cX7_least 62 = .ok (.goto 4, 3) := by decide +kernel
theorem dX7_least_65 : decode cX7_least 65 = .ok (.iload_n 2, 1) := by decide +kernel
theorem dX7_least_66 : decode cX7_least 66 = .ok (.istore_n 2, 1) := by decide +kernel
theorem dX7_least_67 : decode cX7_least 67 = .ok (.iinc 3 1, 3) := by decide +kernel
theorem dX7_least_70 : decode cX7_least 70 = .ok (.goto (-66), 3) := by decide +kernel
theorem dX7_least_73 : decode cX7_least 73 = .ok (.aload_n 0, 1) := by decide +kernel
theorem dX7_least_74 : decode cX7_least 74 = .ok (.aload_n 0, 1) := by decide +kernel
theorem dX7_least_75 : decode cX7_least 75 = .ok (.iload_n 1, 1) := by decide +kernel
theorem dX7_least_76 : decode cX7_least 76 = .ok (.invokevirtual 93, 3) := by decide +kernel
theorem dX7_least_79 : decode cX7_least 79 = .ok (.ifCond .eq 7, 3) := by decide +kernel
theorem dX7_least_82 : decode cX7_least 82 = .ok (.iconst 1, 1) := by decide +kernel
theorem dX7_least_83 : decode cX7_least 83 = .ok (.goto 13, 3) := by decide +kernel
theorem dX7_least_86 : decode cX7_least 86 = .ok (.iload_n 2, 1) := by decide +kernel
theorem dX7_least_87 : decode cX7_least 87 = .ok (.iconst (-1), 1) := by decide +kernel
theorem dX7_least_88 : decode cX7_least 88 = .ok (.if_icmp .ne 7, 3) := by decide +kernel
theorem dX7_least_91 : decode cX7_least 91 = .ok (.iconst 2, 1) := by decide +kernel
theorem dX7_least_92 : decode cX7_least 92 = .ok (.goto 4, 3) := by decide +kernel
theorem dX7_least_95 : decode cX7_least 95 = .ok (.iconst 0, 1) := by decide +kernel
theorem dX7_least_96 : decode cX7_least 96 = .ok (.invokevirtual 89, 3) := by decide +kernel
theorem dX7_least_99 : decode cX7_least 99 = .ok (.ifCond .eq 7, 3) := by decide +kernel
theorem dX7_least_102 : decode cX7_least 102 = .ok (.iconst 0, 1) := by decide +kernel
theorem dX7_least_103 : decode cX7_least 103 = .ok (.goto 4, 3) := by decide +kernel
theorem dX7_least_106 : decode cX7_least 106 = .ok (.iload_n 2, 1) := by decide +kernel
theorem dX7_least_107 : decode cX7_least 107 = .ok (.ireturn, 1) := by decide +kernel
theorem dX7_depthOf_0 : decode cX7_depthOf 0 = .ok (.iconst 0, 1) := by decide +kernel
theorem dX7_depthOf_1 : decode cX7_depthOf 1 = .ok (.istore_n 2, 1) := by decide +kernel
theorem dX7_depthOf_2 : decode cX7_depthOf 2 = .ok (.aload_n 0, 1) := by decide +kernel
theorem dX7_depthOf_3 : decode cX7_depthOf 3 = .ok (.getfield 59, 3) := by decide +kernel
theorem dX7_depthOf_6 : decode cX7_depthOf 6 = .ok (.iload_n 1, 1) := by decide +kernel
theorem dX7_depthOf_7 : decode cX7_depthOf 7 = .ok (.iaload, 1) := by decide +kernel
theorem dX7_depthOf_8 : decode cX7_depthOf 8 = .ok (.istore_n 3, 1) := by decide +kernel
theorem dX7_depthOf_9 : decode cX7_depthOf 9 = .ok (.iload_n 3, 1) := by decide +kernel
theorem dX7_depthOf_10 : decode cX7_depthOf 10 = .ok (.iconst (-1), 1) := by decide +kernel
theorem dX7_depthOf_11 : decode cX7_depthOf 11 = .ok (.if_icmp .eq 16, 3) := by decide +kernel
theorem dX7_depthOf_14 : decode cX7_depthOf 14 = .ok (.iinc 2 1, 3) := by decide +kernel
theorem dX7_depthOf_17 : decode cX7_depthOf 17 = .ok (.aload_n 0, 1) := by decide +kernel
theorem dX7_depthOf_18 : decode cX7_depthOf 18 = .ok (.getfield 59, 3) := by decide +kernel
theorem dX7_depthOf_21 : decode cX7_depthOf 21 = .ok (.iload_n 3, 1) := by decide +kernel
theorem dX7_depthOf_22 : decode cX7_depthOf 22 = .ok (.iaload, 1) := by decide +kernel
theorem dX7_depthOf_23 : decode cX7_depthOf 23 = .ok (.istore_n 3, 1) := by decide +kernel
theorem dX7_depthOf_24 : decode cX7_depthOf 24 = .ok (.goto (-15), 3) := by decide +kernel
theorem dX7_depthOf_27 : decode cX7_depthOf 27 = .ok (.iload_n 2, 1) := by decide +kernel
theorem dX7_depthOf_28 : decode cX7_depthOf 28 = .ok (.ireturn, 1) := by decide +kernel
theorem dX7_partsOf_0 : decode cX7_partsOf 0 = .ok (.aload_n 0, 1) := by decide +kernel
theorem dX7_partsOf_1 : decode cX7_partsOf 1 = .ok (.getfield 59, 3) := by decide +kernel
theorem dX7_partsOf_4 : decode cX7_partsOf 4 = .ok (.iload_n 1, 1) := by decide +kernel
theorem dX7_partsOf_5 : decode cX7_partsOf 5 = .ok (.iaload, 1) := by decide +kernel
theorem dX7_partsOf_6 : decode cX7_partsOf 6 = .ok (.iconst (-1), 1) := by decide +kernel
theorem dX7_partsOf_7 : decode cX7_partsOf 7 = .ok (.if_icmp .ne 10, 3) := by decide +kernel
theorem dX7_partsOf_10 : decode cX7_partsOf 10 = .ok (.aload_n 0, 1) := by decide +kernel
theorem dX7_partsOf_11 : decode cX7_partsOf 11 = .ok (.getfield 35, 3) := by decide +kernel
theorem dX7_partsOf_14 : decode cX7_partsOf 14 = .ok (.iload_n 1, 1) := by decide +kernel
theorem dX7_partsOf_15 : decode cX7_partsOf 15 = .ok (.iaload, 1) := by decide +kernel
theorem dX7_partsOf_16 : decode cX7_partsOf 16 = .ok (.ireturn, 1) := by decide +kernel
theorem dX7_partsOf_17 : decode cX7_partsOf 17 = .ok (.iconst 0, 1) := by decide +kernel
theorem dX7_partsOf_18 : decode cX7_partsOf 18 = .ok (.istore_n 2, 1) := by decide +kernel
theorem dX7_partsOf_19 : decode cX7_partsOf 19 = .ok (.iconst 0, 1) := by decide +kernel
theorem dX7_partsOf_20 : decode cX7_partsOf 20 = .ok (.istore_n 3, 1) := by decide +kernel
theorem dX7_partsOf_21 : decode cX7_partsOf 21 = .ok (.iload_n 3, 1) := by decide +kernel
theorem dX7_partsOf_22 : decode cX7_partsOf 22 = .ok (.aload_n 0, 1) := by decide +kernel
theorem dX7_partsOf_23 : decode cX7_partsOf 23 = .ok (.getfield 35, 3) := by decide +kernel
theorem dX7_partsOf_26 : decode cX7_partsOf 26 = .ok (.iload_n 1, 1) := by decide +kernel
theorem dX7_partsOf_27 : decode cX7_partsOf 27 = .ok (.iaload, 1) := by decide +kernel
theorem dX7_partsOf_28 : decode cX7_partsOf 28 = .ok (.if_icmp .ge 62, 3) := by decide +kernel
theorem dX7_partsOf_31 : decode cX7_partsOf 31 = .ok (.iload_n 2, 1) := by decide +kernel
theorem dX7_partsOf_32 : decode cX7_partsOf 32 = .ok (.iload_n 3, 1) := by decide +kernel
theorem dX7_partsOf_33 : decode cX7_partsOf 33 = .ok (.aload_n 0, 1) := by decide +kernel
theorem dX7_partsOf_34 : decode cX7_partsOf 34 = .ok (.getfield 35, 3) := by decide +kernel
theorem dX7_partsOf_37 : decode cX7_partsOf 37 = .ok (.aload_n 0, 1) := by decide +kernel
theorem dX7_partsOf_38 : decode cX7_partsOf 38 = .ok (.getfield 59, 3) := by decide +kernel
theorem dX7_partsOf_41 : decode cX7_partsOf 41 = .ok (.iload_n 1, 1) := by decide +kernel
theorem dX7_partsOf_42 : decode cX7_partsOf 42 = .ok (.iaload, 1) := by decide +kernel
theorem dX7_partsOf_43 : decode cX7_partsOf 43 = .ok (.iaload, 1) := by decide +kernel
theorem dX7_partsOf_44 : decode cX7_partsOf 44 = .ok (.if_icmp .ge 33, 3) := by decide +kernel
theorem dX7_partsOf_47 : decode cX7_partsOf 47 = .ok (.aload_n 0, 1) := by decide +kernel
theorem dX7_partsOf_48 : decode cX7_partsOf 48 = .ok (.getfield 32, 3) := by decide +kernel
theorem dX7_partsOf_51 : decode cX7_partsOf 51 = .ok (.bipush 60, 2) := by decide +kernel
theorem dX7_partsOf_53 : decode cX7_partsOf 53 = .ok (.iload_n 1, 1) := by decide +kernel
theorem dX7_partsOf_54 : decode cX7_partsOf 54 = .ok (.imul, 1) := by decide +kernel
theorem dX7_partsOf_55 : decode cX7_partsOf 55 = .ok (.iload_n 3, 1) := by decide +kernel
theorem dX7_partsOf_56 : decode cX7_partsOf 56 = .ok (.iadd, 1) := by decide +kernel
theorem dX7_partsOf_57 : decode cX7_partsOf 57 = .ok (.caload, 1) := by decide +kernel
theorem dX7_partsOf_58 : decode cX7_partsOf 58 = .ok (.aload_n 0, 1) := by decide +kernel
theorem dX7_partsOf_59 : decode cX7_partsOf 59 = .ok (.getfield 32, 3) := by decide +kernel
theorem dX7_partsOf_62 : decode cX7_partsOf 62 = .ok (.bipush 60, 2) := by decide +kernel
theorem dX7_partsOf_64 : decode cX7_partsOf 64 = .ok (.aload_n 0, 1) := by decide +kernel
theorem dX7_partsOf_65 : decode cX7_partsOf 65 = .ok (.getfield 59, 3) := by decide +kernel
theorem dX7_partsOf_68 : decode cX7_partsOf 68 = .ok (.iload_n 1, 1) := by decide +kernel
theorem dX7_partsOf_69 : decode cX7_partsOf 69 = .ok (.iaload, 1) := by decide +kernel
theorem dX7_partsOf_70 : decode cX7_partsOf 70 = .ok (.imul, 1) := by decide +kernel
theorem dX7_partsOf_71 : decode cX7_partsOf 71 = .ok (.iload_n 3, 1) := by decide +kernel
theorem dX7_partsOf_72 : decode cX7_partsOf 72 = .ok (.iadd, 1) := by decide +kernel
theorem dX7_partsOf_73 : decode cX7_partsOf 73 = .ok (.caload, 1) := by decide +kernel
theorem dX7_partsOf_74 : decode cX7_partsOf 74 = .ok (.if_icmp .eq 7, 3) := by decide +kernel
theorem dX7_partsOf_77 : decode cX7_partsOf 77 = .ok (.iconst 1, 1) := by decide +kernel
theorem dX7_partsOf_78 : decode cX7_partsOf 78 = .ok (.goto 4, 3) := by decide +kernel
theorem dX7_partsOf_81 : decode cX7_partsOf 81 = .ok (.iconst 0, 1) := by decide +kernel
theorem dX7_partsOf_82 : decode cX7_partsOf 82 = .ok (.iadd, 1) := by decide +kernel
theorem dX7_partsOf_83 : decode cX7_partsOf 83 = .ok (.istore_n 2, 1) := by decide +kernel
theorem dX7_partsOf_84 : decode cX7_partsOf 84 = .ok (.iinc 3 1, 3) := by decide +kernel
theorem dX7_partsOf_87 : decode cX7_partsOf 87 = .ok (.goto (-66), 3) := by decide +kernel
theorem dX7_partsOf_90 : decode cX7_partsOf 90 = .ok (.iload_n 2, 1) := by decide +kernel
theorem dX7_partsOf_91 : decode cX7_partsOf 91 = .ok (.ireturn, 1) := by decide +kernel
theorem dX7_base_0 : decode cX7_base 0 = .ok (.aload_n 0, 1) := by decide +kernel
theorem dX7_base_1 : decode cX7_base 1 = .ok (.aload_n 0, 1) := by decide +kernel
theorem dX7_base_2 : decode cX7_base 2 = .ok (.iload_n 1, 1) := by decide +kernel
theorem dX7_base_3 : decode cX7_base 3 = .ok (.invokevirtual 131, 3) := by decide +kernel
theorem dX7_base_6 : decode cX7_base 6 = .ok (.ifCond .eq 7, 3) := by decide +kernel
theorem dX7_base_9 : decode cX7_base 9 = .ok (.iconst 1, 1) := by decide +kernel
theorem dX7_base_10 : decode cX7_base 10 = .ok (.goto 18, 3) := by decide +kernel
theorem dX7_base_13 : decode cX7_base 13 = .ok (.aload_n 0, 1) := by decide +kernel
theorem dX7_base_14 : decode cX7_base 14 = .ok (.getfield 59, 3) := by decide +kernel
theorem dX7_base_17 : decode cX7_base 17 = .ok (.iload_n 1, 1) := by decide +kernel
theorem dX7_base_18 : decode cX7_base 18 = .ok (.iaload, 1) := by decide +kernel
theorem dX7_base_19 : decode cX7_base 19 = .ok (.iconst (-1), 1) := by decide +kernel
theorem dX7_base_20 : decode cX7_base 20 = .ok (.if_icmp .ne 7, 3) := by decide +kernel
theorem dX7_base_23 : decode cX7_base 23 = .ok (.iconst 2, 1) := by decide +kernel
theorem dX7_base_24 : decode cX7_base 24 = .ok (.goto 4, 3) := by decide +kernel
theorem dX7_base_27 : decode cX7_base 27 = .ok (.iconst 0, 1) := by decide +kernel
theorem dX7_base_28 : decode cX7_base 28 = .ok (.invokevirtual 89, 3) := by decide +kernel
theorem dX7_base_31 : decode cX7_base 31 = .ok (.ifCond .eq 7, 3) := by decide +kernel
theorem dX7_base_34 : decode cX7_base 34 = .ok (.iconst 0, 1) := by decide +kernel
theorem dX7_base_35 : decode cX7_base 35 = .ok (.goto 9, 3) := by decide +kernel
theorem dX7_base_38 : decode cX7_base 38 = .ok (.aload_n 0, 1) := by decide +kernel
theorem dX7_base_39 : decode cX7_base 39 = .ok (.getfield 59, 3) := by decide +kernel
theorem dX7_base_42 : decode cX7_base 42 = .ok (.iload_n 1, 1) := by decide +kernel
theorem dX7_base_43 : decode cX7_base 43 = .ok (.iaload, 1) := by decide +kernel
theorem dX7_base_44 : decode cX7_base 44 = .ok (.ireturn, 1) := by decide +kernel
theorem dX7_depth_0 : decode cX7_depth 0 = .ok (.aload_n 0, 1) := by decide +kernel
theorem dX7_depth_1 : decode cX7_depth 1 = .ok (.aload_n 0, 1) := by decide +kernel
theorem dX7_depth_2 : decode cX7_depth 2 = .ok (.iload_n 1, 1) := by decide +kernel
theorem dX7_depth_3 : decode cX7_depth 3 = .ok (.invokevirtual 131, 3) := by decide +kernel
theorem dX7_depth_6 : decode cX7_depth 6 = .ok (.ifCond .eq 7, 3) := by decide +kernel
theorem dX7_depth_9 : decode cX7_depth 9 = .ok (.iconst 1, 1) := by decide +kernel
theorem dX7_depth_10 : decode cX7_depth 10 = .ok (.goto 4, 3) := by decide +kernel
theorem dX7_depth_13 : decode cX7_depth 13 = .ok (.iconst 0, 1) := by decide +kernel
theorem dX7_depth_14 : decode cX7_depth 14 = .ok (.invokevirtual 89, 3) := by decide +kernel
theorem dX7_depth_17 : decode cX7_depth 17 = .ok (.ifCond .eq 7, 3) := by decide +kernel
theorem dX7_depth_20 : decode cX7_depth 20 = .ok (.iconst 0, 1) := by decide +kernel
theorem dX7_depth_21 : decode cX7_depth 21 = .ok (.goto 8, 3) := by decide +kernel
theorem dX7_depth_24 : decode cX7_depth 24 = .ok (.aload_n 0, 1) := by decide +kernel
theorem dX7_depth_25 : decode cX7_depth 25 = .ok (.iload_n 1, 1) := by decide +kernel
theorem dX7_depth_26 : decode cX7_depth 26 = .ok (.invokevirtual 153, 3) := by decide +kernel
theorem dX7_depth_29 : decode cX7_depth 29 = .ok (.ireturn, 1) := by decide +kernel
theorem dX7_parts_0 : decode cX7_parts 0 = .ok (.aload_n 0, 1) := by decide +kernel
theorem dX7_parts_1 : decode cX7_parts 1 = .ok (.aload_n 0, 1) := by decide +kernel
theorem dX7_parts_2 : decode cX7_parts 2 = .ok (.iload_n 1, 1) := by decide +kernel
theorem dX7_parts_3 : decode cX7_parts 3 = .ok (.invokevirtual 131, 3) := by decide +kernel
theorem dX7_parts_6 : decode cX7_parts 6 = .ok (.ifCond .eq 7, 3) := by decide +kernel
theorem dX7_parts_9 : decode cX7_parts 9 = .ok (.iconst 1, 1) := by decide +kernel
theorem dX7_parts_10 : decode cX7_parts 10 = .ok (.goto 4, 3) := by decide +kernel
theorem dX7_parts_13 : decode cX7_parts 13 = .ok (.iconst 0, 1) := by decide +kernel
theorem dX7_parts_14 : decode cX7_parts 14 = .ok (.invokevirtual 89, 3) := by decide +kernel
theorem dX7_parts_17 : decode cX7_parts 17 = .ok (.ifCond .eq 7, 3) := by decide +kernel
theorem dX7_parts_20 : decode cX7_parts 20 = .ok (.iconst 0, 1) := by decide +kernel
theorem dX7_parts_21 : decode cX7_parts 21 = .ok (.goto 8, 3) := by decide +kernel
theorem dX7_parts_24 : decode cX7_parts 24 = .ok (.aload_n 0, 1) := by decide +kernel
theorem dX7_parts_25 : decode cX7_parts 25 = .ok (.iload_n 1, 1) := by decide +kernel
theorem dX7_parts_26 : decode cX7_parts 26 = .ok (.invokevirtual 159, 3) := by decide +kernel
theorem dX7_parts_29 : decode cX7_parts 29 = .ok (.ireturn, 1) := by decide +kernel
theorem dX7_allParts_0 : decode cX7_allParts 0 = .ok (.iconst 0, 1) := by decide +kernel
theorem dX7_allParts_1 : decode cX7_allParts 1 = .ok (.istore_n 1, 1) := by decide +kernel
theorem dX7_allParts_2 : decode cX7_allParts 2 = .ok (.iconst 0, 1) := by decide +kernel
theorem dX7_allParts_3 : decode cX7_allParts 3 = .ok (.istore_n 2, 1) := by decide +kernel
theorem dX7_allParts_4 : decode cX7_allParts 4 = .ok (.iload_n 2, 1) := by decide +kernel
theorem dX7_allParts_5 : decode cX7_allParts 5 = .ok (.aload_n 0, 1) := by decide +kernel
theorem dX7_allParts_6 : decode cX7_allParts 6 = .ok (.getfield 86, 3) := by decide +kernel
theorem dX7_allParts_9 : decode cX7_allParts 9 = .ok (.if_icmp .ge 17, 3) := by decide +kernel
theorem dX7_allParts_12 : decode cX7_allParts 12 = .ok (.iload_n 1, 1) := by decide +kernel
theorem dX7_allParts_13 : decode cX7_allParts 13 = .ok (.aload_n 0, 1) := by decide +kernel
theorem dX7_allParts_14 : decode cX7_allParts 14 = .ok (.iload_n 2, 1) := by decide +kernel
theorem dX7_allParts_15 : decode cX7_allParts 15 = .ok (.invokevirtual 159, 3) := by decide +kernel
theorem dX7_allParts_18 : decode cX7_allParts 18 = .ok (.iadd, 1) := by decide +kernel
theorem dX7_allParts_19 : decode cX7_allParts 19 = .ok (.istore_n 1, 1) := by decide +kernel
theorem dX7_allParts_20 : decode cX7_allParts 20 = .ok (.iinc 2 1, 3) := by decide +kernel
theorem dX7_allParts_23 : decode cX7_allParts 23 = .ok (.goto (-19), 3) := by decide +kernel
theorem dX7_allParts_26 : decode cX7_allParts 26 = .ok (.iload_n 1, 1) := by decide +kernel
theorem dX7_allParts_27 : decode cX7_allParts 27 = .ok (.ireturn, 1) := by decide +kernel
theorem dX7_stored_0 : decode cX7_stored 0 = .ok (.aload_n 0, 1) := by decide +kernel
theorem dX7_stored_1 : decode cX7_stored 1 = .ok (.iconst 0, 1) := by decide +kernel
theorem dX7_stored_2 : decode cX7_stored 2 = .ok (.putfield 72, 3) := by decide +kernel
theorem dX7_stored_5 : decode cX7_stored 5 = .ok (.aload_n 0, 1) := by decide +kernel
theorem dX7_stored_6 : decode cX7_stored 6 = .ok (.invokevirtual 162, 3) := by decide +kernel
theorem dX7_stored_9 : decode cX7_stored 9 = .ok (.ireturn, 1) := by decide +kernel
theorem dX7_rests_0 : decode cX7_rests 0 = .ok (.aload_n 0, 1) := by decide +kernel
theorem dX7_rests_1 : decode cX7_rests 1 = .ok (.getfield 59, 3) := by decide +kernel
theorem dX7_rests_4 : decode cX7_rests 4 = .ok (.iload_n 1, 1) := by decide +kernel
theorem dX7_rests_5 : decode cX7_rests 5 = .ok (.iaload, 1) := by decide +kernel
theorem dX7_rests_6 : decode cX7_rests 6 = .ok (.istore_n 3, 1) := by decide +kernel
theorem dX7_rests_7 : decode cX7_rests 7 = .ok (.iload_n 3, 1) := by decide +kernel
theorem dX7_rests_8 : decode cX7_rests 8 = .ok (.iconst (-1), 1) := by decide +kernel
theorem dX7_rests_9 : decode cX7_rests 9 = .ok (.if_icmp .eq 18, 3) := by decide +kernel
theorem dX7_rests_12 : decode cX7_rests 12 = .ok (.iload_n 3, 1) := by decide +kernel
theorem dX7_rests_13 : decode cX7_rests 13 = .ok (.iload_n 2, 1) := by decide +kernel
theorem dX7_rests_14 : decode cX7_rests 14 = .ok (.if_icmp .eq 13, 3) := by decide +kernel
theorem dX7_rests_17 : decode cX7_rests 17 = .ok (.aload_n 0, 1) := by decide +kernel
theorem dX7_rests_18 : decode cX7_rests 18 = .ok (.getfield 59, 3) := by decide +kernel
theorem dX7_rests_21 : decode cX7_rests 21 = .ok (.iload_n 3, 1) := by decide +kernel
theorem dX7_rests_22 : decode cX7_rests 22 = .ok (.iaload, 1) := by decide +kernel
theorem dX7_rests_23 : decode cX7_rests 23 = .ok (.istore_n 3, 1) := by decide +kernel
theorem dX7_rests_24 : decode cX7_rests 24 = .ok (.goto (-17), 3) := by decide +kernel
theorem dX7_rests_27 : decode cX7_rests 27 = .ok (.iload_n 3, 1) := by decide +kernel
theorem dX7_rests_28 : decode cX7_rests 28 = .ok (.iconst (-1), 1) := by decide +kernel
theorem dX7_rests_29 : decode cX7_rests 29 = .ok (.if_icmp .eq 7, 3) := by decide +kernel
theorem dX7_rests_32 : decode cX7_rests 32 = .ok (.iconst 1, 1) := by decide +kernel
theorem dX7_rests_33 : decode cX7_rests 33 = .ok (.goto 4, 3) := by decide +kernel
theorem dX7_rests_36 : decode cX7_rests 36 = .ok (.iconst 0, 1) := by decide +kernel
theorem dX7_rests_37 : decode cX7_rests 37 = .ok (.ireturn, 1) := by decide +kernel
theorem dX7_resting_0 : decode cX7_resting 0 = .ok (.aload_n 0, 1) := by decide +kernel
theorem dX7_resting_1 : decode cX7_resting 1 = .ok (.aload_n 0, 1) := by decide +kernel
theorem dX7_resting_2 : decode cX7_resting 2 = .ok (.iload_n 1, 1) := by decide +kernel
theorem dX7_resting_3 : decode cX7_resting 3 = .ok (.invokevirtual 131, 3) := by decide +kernel
theorem dX7_resting_6 : decode cX7_resting 6 = .ok (.ifCond .eq 7, 3) := by decide +kernel
theorem dX7_resting_9 : decode cX7_resting 9 = .ok (.iconst 1, 1) := by decide +kernel
theorem dX7_resting_10 : decode cX7_resting 10 = .ok (.goto 4, 3) := by decide +kernel
theorem dX7_resting_13 : decode cX7_resting 13 = .ok (.iconst 0, 1) := by decide +kernel
theorem dX7_resting_14 : decode cX7_resting 14 = .ok (.invokevirtual 89, 3) := by decide +kernel
theorem dX7_resting_17 : decode cX7_resting 17 = .ok (.ifCond .eq 5, 3) := by decide +kernel
theorem dX7_resting_20 : decode cX7_resting 20 = .ok (.iconst 0, 1) := by decide +kernel
theorem dX7_resting_21 : decode cX7_resting 21 = .ok (.ireturn, 1) := by decide +kernel
theorem dX7_resting_22 : decode cX7_resting 22 = .ok (.iconst 0, 1) := by decide +kernel
theorem dX7_resting_23 : decode cX7_resting 23 = .ok (.istore_n 2, 1) := by decide +kernel
theorem dX7_resting_24 : decode cX7_resting 24 = .ok (.iconst 0, 1) := by decide +kernel
theorem dX7_resting_25 : decode cX7_resting 25 = .ok (.istore_n 3, 1) := by decide +kernel
theorem dX7_resting_26 : decode cX7_resting 26 = .ok (.iload_n 3, 1) := by decide +kernel
theorem dX7_resting_27 : decode cX7_resting 27 = .ok (.aload_n 0, 1) := by decide +kernel
theorem dX7_resting_28 : decode cX7_resting 28 = .ok (.getfield 86, 3) := by decide +kernel
theorem dX7_resting_31 : decode cX7_resting 31 = .ok (.if_icmp .ge 26, 3) := by decide +kernel
theorem dX7_resting_34 : decode cX7_resting 34 = .ok (.iload_n 2, 1) := by decide +kernel
theorem dX7_resting_35 : decode cX7_resting 35 = .ok (.aload_n 0, 1) := by decide +kernel
theorem dX7_resting_36 : decode cX7_resting 36 = .ok (.iload_n 3, 1) := by decide +kernel
theorem dX7_resting_37 : decode cX7_resting 37 = .ok (.iload_n 1, 1) := by decide +kernel
theorem dX7_resting_38 : decode cX7_resting 38 = .ok (.invokevirtual 166, 3) := by decide +kernel
theorem dX7_resting_41 : decode cX7_resting 41 = .ok (.ifCond .eq 7, 3) := by decide +kernel
theorem dX7_resting_44 : decode cX7_resting 44 = .ok (.iconst 1, 1) := by decide +kernel
theorem dX7_resting_45 : decode cX7_resting 45 = .ok (.goto 4, 3) := by decide +kernel
theorem dX7_resting_48 : decode cX7_resting 48 = .ok (.iconst 0, 1) := by decide +kernel
theorem dX7_resting_49 : decode cX7_resting 49 = .ok (.iadd, 1) := by decide +kernel
theorem dX7_resting_50 : decode cX7_resting 50 = .ok (.istore_n 2, 1) := by decide +kernel
theorem dX7_resting_51 : decode cX7_resting 51 = .ok (.iinc 3 1, 3) := by decide +kernel
theorem dX7_resting_54 : decode cX7_resting 54 = .ok (.goto (-28), 3) := by decide +kernel
theorem dX7_resting_57 : decode cX7_resting 57 = .ok (.iload_n 2, 1) := by decide +kernel
theorem dX7_resting_58 : decode cX7_resting 58 = .ok (.ireturn, 1) := by decide +kernel
theorem dX7_strike_0 : decode cX7_strike 0 = .ok (.aload_n 0, 1) := by decide +kernel
theorem dX7_strike_1 : decode cX7_strike 1 = .ok (.aload_n 0, 1) := by decide +kernel
theorem dX7_strike_2 : decode cX7_strike 2 = .ok (.iload_n 1, 1) := by decide +kernel
theorem dX7_strike_3 : decode cX7_strike 3 = .ok (.invokevirtual 131, 3) := by decide +kernel
theorem dX7_strike_6 : decode cX7_strike 6 = .ok (.ifCond .eq 7, 3) := by decide +kernel
theorem dX7_strike_9 : decode cX7_strike 9 = .ok (.iconst 1, 1) := by decide +kernel
theorem dX7_strike_10 : decode cX7_strike 10 = .ok (.goto 17, 3) := by decide +kernel
theorem dX7_strike_13 : decode cX7_strike 13 = .ok (.aload_n 0, 1) := by decide +kernel
theorem dX7_strike_14 : decode cX7_strike 14 = .ok (.getfield 62, 3) := by decide +kernel
theorem dX7_strike_17 : decode cX7_strike 17 = .ok (.iload_n 1, 1) := by decide +kernel
theorem dX7_strike_18 : decode cX7_strike 18 = .ok (.baload, 1) := by decide +kernel
theorem dX7_strike_19 : decode cX7_strike 19 = .ok (.ifCond .eq 7, 3) := by decide +kernel
theorem dX7_strike_22 : decode cX7_strike 22 = .ok (.iconst 2, 1) := by decide +kernel
theorem dX7_strike_23 : decode cX7_strike 23 = .ok (.goto 4, 3) := by decide +kernel
theorem dX7_strike_26 : decode cX7_strike 26 = .ok (.iconst 0, 1) := by decide +kernel
theorem dX7_strike_27 : decode cX7_strike 27 = .ok (.invokevirtual 89, 3) := by decide +kernel
theorem dX7_strike_30 : decode cX7_strike 30 = .ok (.ifCond .eq 5, 3) := by decide +kernel
theorem dX7_strike_33 : decode cX7_strike 33 = .ok (.iconst 0, 1) := by decide +kernel
theorem dX7_strike_34 : decode cX7_strike 34 = .ok (.ireturn, 1) := by decide +kernel
theorem dX7_strike_35 : decode cX7_strike 35 = .ok (.aload_n 0, 1) := by decide +kernel
theorem dX7_strike_36 : decode cX7_strike 36 = .ok (.getfield 62, 3) := by decide +kernel
theorem dX7_strike_39 : decode cX7_strike 39 = .ok (.iload_n 1, 1) := by decide +kernel
theorem dX7_strike_40 : decode cX7_strike 40 = .ok (.iconst 1, 1) := by decide +kernel
theorem dX7_strike_41 : decode cX7_strike 41 = .ok (.bastore, 1) := by decide +kernel
theorem dX7_strike_42 : decode cX7_strike 42 = .ok (.iconst 0, 1) := by decide +kernel
theorem dX7_strike_43 : decode cX7_strike 43 = .ok (.istore_n 2, 1) := by decide +kernel
theorem dX7_strike_44 : decode cX7_strike 44 = .ok (.iconst 0, 1) := by decide +kernel
theorem dX7_strike_45 : decode cX7_strike 45 = .ok (.istore_n 3, 1) := by decide +kernel
theorem dX7_strike_46 : decode cX7_strike 46 = .ok (.iload_n 3, 1) := by decide +kernel
theorem dX7_strike_47 : decode cX7_strike 47 = .ok (.aload_n 0, 1) := by decide +kernel
theorem dX7_strike_48 : decode cX7_strike 48 = .ok (.getfield 86, 3) := by decide +kernel
theorem dX7_strike_51 : decode cX7_strike 51 = .ok (.if_icmp .ge 34, 3) := by decide +kernel
theorem dX7_strike_54 : decode cX7_strike 54 = .ok (.aload_n 0, 1) := by decide +kernel
theorem dX7_strike_55 : decode cX7_strike 55 = .ok (.getfield 59, 3) := by decide +kernel
theorem dX7_strike_58 : decode cX7_strike 58 = .ok (.iload_n 3, 1) := by decide +kernel
theorem dX7_strike_59 : decode cX7_strike 59 = .ok (.iaload, 1) := by decide +kernel
theorem dX7_strike_60 : decode cX7_strike 60 = .ok (.iload_n 1, 1) := by decide +kernel
theorem dX7_strike_61 : decode cX7_strike 61 = .ok (.if_icmp .ne 18, 3) := by decide +kernel
theorem dX7_strike_64 : decode cX7_strike 64 = .ok (.aload_n 0, 1) := by decide +kernel
theorem dX7_strike_65 : decode cX7_strike 65 = .ok (.getfield 59, 3) := by decide +kernel
theorem dX7_strike_68 : decode cX7_strike 68 = .ok (.iload_n 3, 1) := by decide +kernel
theorem dX7_strike_69 : decode cX7_strike 69 = .ok (.aload_n 0, 1) := by decide +kernel
theorem dX7_strike_70 : decode cX7_strike 70 = .ok (.getfield 59, 3) := by decide +kernel
theorem dX7_strike_73 : decode cX7_strike 73 = .ok (.iload_n 1, 1) := by decide +kernel
theorem dX7_strike_74 : decode cX7_strike 74 = .ok (.iaload, 1) := by decide +kernel
theorem dX7_strike_75 : decode cX7_strike 75 = .ok (.iastore, 1) := by decide +kernel
theorem dX7_strike_76 : decode cX7_strike 76 = .ok (.iinc 2 1, 3) := by decide +kernel
theorem dX7_strike_79 : decode cX7_strike 79 = .ok (.iinc 3 1, 3) := by decide +kernel
theorem dX7_strike_82 : decode cX7_strike 82 = .ok (.goto (-36), 3) := by decide +kernel
theorem dX7_strike_85 : decode cX7_strike 85 = .ok (.iload_n 2, 1) := by decide +kernel
theorem dX7_strike_86 : decode cX7_strike 86 = .ok (.ireturn, 1) := by decide +kernel
theorem dX7_giveBack_0 : decode cX7_giveBack 0 = .ok (.aload_n 0, 1) := by decide +kernel
theorem dX7_giveBack_1 : decode cX7_giveBack 1 = .ok (.aload_n 0, 1) := by decide +kernel
theorem dX7_giveBack_2 : decode cX7_giveBack 2 = .ok (.iload_n 1, 1) := by decide +kernel
theorem dX7_giveBack_3 : decode cX7_giveBack 3 = .ok (.invokevirtual 131, 3) := by decide +kernel
theorem dX7_giveBack_6 : decode cX7_giveBack 6 = .ok (.ifCond .eq 7, 3) := by decide +kernel
theorem dX7_giveBack_9 : decode cX7_giveBack 9 = .ok (.iconst 1, 1) := by decide +kernel
theorem dX7_giveBack_10 : decode cX7_giveBack 10 = .ok (.goto 17, 3) := by decide +kernel
theorem dX7_giveBack_13 : decode cX7_giveBack 13 = .ok (.aload_n 0, 1) := by decide +kernel
theorem dX7_giveBack_14 : decode cX7_giveBack 14 = .ok (.getfield 62, 3) := by decide +kernel
theorem dX7_giveBack_17 : decode cX7_giveBack 17 = .ok (.iload_n 1, 1) := by decide +kernel
theorem dX7_giveBack_18 : decode cX7_giveBack 18 = .ok (.baload, 1) := by decide +kernel
theorem dX7_giveBack_19 : decode cX7_giveBack 19 = .ok (.ifCond .ne 7, 3) := by decide +kernel
theorem dX7_giveBack_22 : decode cX7_giveBack 22 = .ok (.iconst 2, 1) := by decide +kernel
theorem dX7_giveBack_23 : decode cX7_giveBack 23 = .ok (.goto 4, 3) := by decide +kernel
theorem dX7_giveBack_26 : decode cX7_giveBack 26 = .ok (.iconst 0, 1) := by decide +kernel
theorem dX7_giveBack_27 : decode cX7_giveBack 27 = .ok (.invokevirtual 89, 3) := by decide +kernel
theorem dX7_giveBack_30 : decode cX7_giveBack 30 = .ok (.ifCond .eq 5, 3) := by decide +kernel
theorem dX7_giveBack_33 : decode cX7_giveBack 33 = .ok (.iconst 0, 1) := by decide +kernel
theorem dX7_giveBack_34 : decode cX7_giveBack 34 = .ok (.ireturn, 1) := by decide +kernel
theorem dX7_giveBack_35 : decode cX7_giveBack 35 = .ok (.aload_n 0, 1) := by decide +kernel
theorem dX7_giveBack_36 : decode cX7_giveBack 36 = .ok (.getfield 62, 3) := by decide +kernel
theorem dX7_giveBack_39 : decode cX7_giveBack 39 = .ok (.iload_n 1, 1) := by decide +kernel
theorem dX7_giveBack_40 : decode cX7_giveBack 40 = .ok (.iconst 0, 1) := by decide +kernel
theorem dX7_giveBack_41 : decode cX7_giveBack 41 = .ok (.bastore, 1) := by decide +kernel
theorem dX7_giveBack_42 : decode cX7_giveBack 42 = .ok (.iconst 0, 1) := by decide +kernel
theorem dX7_giveBack_43 : decode cX7_giveBack 43 = .ok (.istore_n 2, 1) := by decide +kernel
theorem dX7_giveBack_44 : decode cX7_giveBack 44 = .ok (.iconst 0, 1) := by decide +kernel
theorem dX7_giveBack_45 : decode cX7_giveBack 45 = .ok (.istore_n 3, 1) := by decide +kernel
theorem dX7_giveBack_46 : decode cX7_giveBack 46 = .ok (.iload_n 3, 1) := by decide +kernel
theorem dX7_giveBack_47 : decode cX7_giveBack 47 = .ok (.aload_n 0, 1) := by decide +kernel
theorem dX7_giveBack_48 : decode cX7_giveBack 48 = .ok (.getfield 86, 3) := by decide +kernel
theorem dX7_giveBack_51 : decode cX7_giveBack 51 = .ok (.if_icmp .ge 26, 3) := by decide +kernel
theorem dX7_giveBack_54 : decode cX7_giveBack 54 = .ok (.iload_n 2, 1) := by decide +kernel
theorem dX7_giveBack_55 : decode cX7_giveBack 55 = .ok (.aload_n 0, 1) := by decide +kernel
theorem dX7_giveBack_56 : decode cX7_giveBack 56 = .ok (.getfield 62, 3) := by decide +kernel
theorem dX7_giveBack_59 : decode cX7_giveBack 59 = .ok (.iload_n 3, 1) := by decide +kernel
theorem dX7_giveBack_60 : decode cX7_giveBack 60 = .ok (.baload, 1) := by decide +kernel
theorem dX7_giveBack_61 : decode cX7_giveBack 61 = .ok (.ifCond .eq 7, 3) := by decide +kernel
theorem dX7_giveBack_64 : decode cX7_giveBack 64 = .ok (.iconst 0, 1) := by decide +kernel
theorem dX7_giveBack_65 : decode cX7_giveBack 65 = .ok (.goto 4, 3) := by decide +kernel
theorem dX7_giveBack_68 : decode cX7_giveBack 68 = .ok (.iconst 1, 1) := by decide +kernel
theorem dX7_giveBack_69 : decode cX7_giveBack 69 = .ok (.iadd, 1) := by decide +kernel
theorem dX7_giveBack_70 : decode cX7_giveBack 70 = .ok (.istore_n 2, 1) := by decide +kernel
theorem dX7_giveBack_71 : decode cX7_giveBack 71 = .ok (.iinc 3 1, 3) := by decide +kernel
theorem dX7_giveBack_74 : decode cX7_giveBack 74 = .ok (.goto (-28), 3) := by decide +kernel
theorem dX7_giveBack_77 : decode cX7_giveBack 77 = .ok (.iload_n 2, 1) := by decide +kernel
theorem dX7_giveBack_78 : decode cX7_giveBack 78 = .ok (.ireturn, 1) := by decide +kernel
theorem dX7_stands_0 : decode cX7_stands 0 = .ok (.aload_n 0, 1) := by decide +kernel
theorem dX7_stands_1 : decode cX7_stands 1 = .ok (.aload_n 0, 1) := by decide +kernel
theorem dX7_stands_2 : decode cX7_stands 2 = .ok (.iload_n 1, 1) := by decide +kernel
theorem dX7_stands_3 : decode cX7_stands 3 = .ok (.invokevirtual 131, 3) := by decide +kernel
theorem dX7_stands_6 : decode cX7_stands 6 = .ok (.ifCond .eq 7, 3) := by decide +kernel
theorem dX7_stands_9 : decode cX7_stands 9 = .ok (.iconst 1, 1) := by decide +kernel
theorem dX7_stands_10 : decode cX7_stands 10 = .ok (.goto 4, 3) := by decide +kernel
theorem dX7_stands_13 : decode cX7_stands 13 = .ok (.iconst 0, 1) := by decide +kernel
theorem dX7_stands_14 : decode cX7_stands 14 = .ok (.invokevirtual 89, 3) := by decide +kernel
theorem dX7_stands_17 : decode cX7_stands 17 = .ok (.ifCond .ne 16, 3) := by decide +kernel
theorem dX7_stands_20 : decode cX7_stands 20 = .ok (.aload_n 0, 1) := by decide +kernel
theorem dX7_stands_21 : decode cX7_stands 21 = .ok (.getfield 62, 3) := by decide +kernel
theorem dX7_stands_24 : decode cX7_stands 24 = .ok (.iload_n 1, 1) := by decide +kernel
theorem dX7_stands_25 : decode cX7_stands 25 = .ok (.baload, 1) := by decide +kernel
theorem dX7_stands_26 : decode cX7_stands 26 = .ok (.ifCond .ne 7, 3) := by decide +kernel
theorem dX7_stands_29 : decode cX7_stands 29 = .ok (.iconst 1, 1) := by decide +kernel
theorem dX7_stands_30 : decode cX7_stands 30 = .ok (.goto 4, 3) := by decide +kernel
theorem dX7_stands_33 : decode cX7_stands 33 = .ok (.iconst 0, 1) := by decide +kernel
theorem dX7_stands_34 : decode cX7_stands 34 = .ok (.ireturn, 1) := by decide +kernel
theorem dX7_penalty_0 : decode cX7_penalty 0 = .ok (.aload_n 0, 1) := by decide +kernel
theorem dX7_penalty_1 : decode cX7_penalty 1 = .ok (.aload_n 0, 1) := by decide +kernel
theorem dX7_penalty_2 : decode cX7_penalty 2 = .ok (.iload_n 1, 1) := by decide +kernel
theorem dX7_penalty_3 : decode cX7_penalty 3 = .ok (.invokevirtual 131, 3) := by decide +kernel
theorem dX7_penalty_6 : decode cX7_penalty 6 = .ok (.ifCond .eq 7, 3) := by decide +kernel
theorem dX7_penalty_9 : decode cX7_penalty 9 = .ok (.iconst 1, 1) := by decide +kernel
theorem dX7_penalty_10 : decode cX7_penalty 10 = .ok (.goto 19, 3) := by decide +kernel
theorem dX7_penalty_13 : decode cX7_penalty 13 = .ok (.iload_n 2, 1) := by decide +kernel
theorem dX7_penalty_14 : decode cX7_penalty 14 = .ok (.iconst 0, 1) := by decide +kernel
theorem dX7_penalty_15 : decode cX7_penalty 15 = .ok (.sipush 9999, 3) := by decide +kernel
theorem dX7_penalty_18 : decode cX7_penalty 18 = .ok (.invokestatic 79, 3) := by decide +kernel
theorem dX7_penalty_21 : decode cX7_penalty 21 = .ok (.ifCond .ne 7, 3) := by decide +kernel
theorem dX7_penalty_24 : decode cX7_penalty 24 = .ok (.iconst 2, 1) := by decide +kernel
theorem dX7_penalty_25 : decode cX7_penalty 25 = .ok (.goto 4, 3) := by decide +kernel
theorem dX7_penalty_28 : decode cX7_penalty 28 = .ok (.iconst 0, 1) := by decide +kernel
theorem dX7_penalty_29 : decode cX7_penalty 29 = .ok (.invokevirtual 89, 3) := by decide +kernel
theorem dX7_penalty_32 : decode cX7_penalty 32 = .ok (.ifCond .eq 5, 3) := by decide +kernel
theorem dX7_penalty_35 : decode cX7_penalty 35 = .ok (.iconst 0, 1) := by decide +kernel
theorem dX7_penalty_36 : decode cX7_penalty 36 = .ok (.ireturn, 1) := by decide +kernel
theorem dX7_penalty_37 : decode cX7_penalty 37 = .ok (.aload_n 0, 1) := by decide +kernel
theorem dX7_penalty_38 : decode cX7_penalty 38 = .ok (.getfield 41, 3) := by decide +kernel
theorem dX7_penalty_41 : decode cX7_penalty 41 = .ok (.iload_n 1, 1) := by decide +kernel
theorem dX7_penalty_42 : decode cX7_penalty 42 = .ok (.iaload, 1) := by decide +kernel
theorem dX7_penalty_43 : decode cX7_penalty 43 = .ok (.istore_n 3, 1) := by decide +kernel
theorem dX7_penalty_44 : decode cX7_penalty 44 = .ok (.aload_n 0, 1) := by decide +kernel
theorem dX7_penalty_45 : decode cX7_penalty 45 = .ok (.getfield 41, 3) := by decide +kernel
theorem dX7_penalty_48 : decode cX7_penalty 48 = .ok (.iload_n 1, 1) := by decide +kernel
theorem dX7_penalty_49 : decode cX7_penalty 49 = .ok (.iload_n 2, 1) := by decide +kernel
theorem dX7_penalty_50 : decode cX7_penalty 50 = .ok (.iastore, 1) := by decide +kernel
theorem dX7_penalty_51 : decode cX7_penalty 51 = .ok (.iload_n 3, 1) := by decide +kernel
theorem dX7_penalty_52 : decode cX7_penalty 52 = .ok (.ireturn, 1) := by decide +kernel
theorem dX7_round_0 : decode cX7_round 0 = .ok (.aload_n 0, 1) := by decide +kernel
theorem dX7_round_1 : decode cX7_round 1 = .ok (.aload_n 0, 1) := by decide +kernel
theorem dX7_round_2 : decode cX7_round 2 = .ok (.iload_n 1, 1) := by decide +kernel
theorem dX7_round_3 : decode cX7_round 3 = .ok (.invokevirtual 93, 3) := by decide +kernel
theorem dX7_round_6 : decode cX7_round 6 = .ok (.ifCond .eq 7, 3) := by decide +kernel
theorem dX7_round_9 : decode cX7_round 9 = .ok (.iconst 1, 1) := by decide +kernel
theorem dX7_round_10 : decode cX7_round 10 = .ok (.goto 17, 3) := by decide +kernel
theorem dX7_round_13 : decode cX7_round 13 = .ok (.aload_n 0, 1) := by decide +kernel
theorem dX7_round_14 : decode cX7_round 14 = .ok (.getfield 150, 3) := by decide +kernel
theorem dX7_round_17 : decode cX7_round 17 = .ok (.bipush 10, 2) := by decide +kernel
theorem dX7_round_19 : decode cX7_round 19 = .ok (.if_icmp .ne 7, 3) := by decide +kernel
theorem dX7_round_22 : decode cX7_round 22 = .ok (.iconst 2, 1) := by decide +kernel
theorem dX7_round_23 : decode cX7_round 23 = .ok (.goto 4, 3) := by decide +kernel
theorem dX7_round_26 : decode cX7_round 26 = .ok (.iconst 0, 1) := by decide +kernel
theorem dX7_round_27 : decode cX7_round 27 = .ok (.invokevirtual 89, 3) := by decide +kernel
theorem dX7_round_30 : decode cX7_round 30 = .ok (.ifCond .eq 5, 3) := by decide +kernel
theorem dX7_round_33 : decode cX7_round 33 = .ok (.iconst 0, 1) := by decide +kernel
theorem dX7_round_34 : decode cX7_round 34 = .ok (.ireturn, 1) := by decide +kernel
theorem dX7_round_35 : decode cX7_round 35 = .ok (.aload_n 0, 1) := by decide +kernel
theorem dX7_round_36 : decode cX7_round 36 = .ok (.getfield 66, 3) := by decide +kernel
theorem dX7_round_39 : decode cX7_round 39 = .ok (.aload_n 0, 1) := by decide +kernel
theorem dX7_round_40 : decode cX7_round 40 = .ok (.getfield 150, 3) := by decide +kernel
theorem dX7_round_43 : decode cX7_round 43 = .ok (.iload_n 1, 1) := by decide +kernel
theorem dX7_round_44 : decode cX7_round 44 = .ok (.iastore, 1) := by decide +kernel
theorem dX7_round_45 : decode cX7_round 45 = .ok (.aload_n 0, 1) := by decide +kernel
theorem dX7_round_46 : decode cX7_round 46 = .ok (.dup, 1) := by decide +kernel
theorem dX7_round_47 : decode cX7_round 47 = .ok (.getfield 150, 3) := by decide +kernel
theorem dX7_round_50 : decode cX7_round 50 = .ok (.iconst 1, 1) := by decide +kernel
theorem dX7_round_51 : decode cX7_round 51 = .ok (.iadd, 1) := by decide +kernel
theorem dX7_round_52 : decode cX7_round 52 = .ok (.putfield 150, 3) := by decide +kernel
theorem dX7_round_55 : decode cX7_round 55 = .ok (.aload_n 0, 1) := by decide +kernel
theorem dX7_round_56 : decode cX7_round 56 = .ok (.iconst 1, 1) := by decide +kernel
theorem dX7_round_57 : decode cX7_round 57 = .ok (.putfield 147, 3) := by decide +kernel
theorem dX7_round_60 : decode cX7_round 60 = .ok (.aload_n 0, 1) := by decide +kernel
theorem dX7_round_61 : decode cX7_round 61 = .ok (.getfield 150, 3) := by decide +kernel
theorem dX7_round_64 : decode cX7_round 64 = .ok (.iconst 1, 1) := by decide +kernel
theorem dX7_round_65 : decode cX7_round 65 = .ok (.isub, 1) := by decide +kernel
theorem dX7_round_66 : decode cX7_round 66 = .ok (.ireturn, 1) := by decide +kernel
theorem dX7_shut_0 : decode cX7_shut 0 = .ok (.aload_n 0, 1) := by decide +kernel
theorem dX7_shut_1 : decode cX7_shut 1 = .ok (.aload_n 0, 1) := by decide +kernel
theorem dX7_shut_2 : decode cX7_shut 2 = .ok (.getfield 147, 3) := by decide +kernel
theorem dX7_shut_5 : decode cX7_shut 5 = .ok (.ifCond .eq 7, 3) := by decide +kernel
theorem dX7_shut_8 : decode cX7_shut 8 = .ok (.iconst 0, 1) := by decide +kernel
theorem dX7_shut_9 : decode cX7_shut 9 = .ok (.goto 4, 3) := by decide +kernel
theorem dX7_shut_12 : decode cX7_shut 12 = .ok (.iconst 1, 1) := by decide +kernel
theorem dX7_shut_13 : decode cX7_shut 13 = .ok (.invokevirtual 89, 3) := by decide +kernel
theorem dX7_shut_16 : decode cX7_shut 16 = .ok (.ifCond .eq 5, 3) := by decide +kernel
theorem dX7_shut_19 : decode cX7_shut 19 = .ok (.iconst 0, 1) := by decide +kernel
theorem dX7_shut_20 : decode cX7_shut 20 = .ok (.ireturn, 1) := by decide +kernel
theorem dX7_shut_21 : decode cX7_shut 21 = .ok (.aload_n 0, 1) := by decide +kernel
theorem dX7_shut_22 : decode cX7_shut 22 = .ok (.iconst 0, 1) := by decide +kernel
theorem dX7_shut_23 : decode cX7_shut 23 = .ok (.putfield 147, 3) := by decide +kernel
theorem dX7_shut_26 : decode cX7_shut 26 = .ok (.aload_n 0, 1) := by decide +kernel
theorem dX7_shut_27 : decode cX7_shut 27 = .ok (.getfield 150, 3) := by decide +kernel
theorem dX7_shut_30 : decode cX7_shut 30 = .ok (.iconst 1, 1) := by decide +kernel
theorem dX7_shut_31 : decode cX7_shut 31 = .ok (.isub, 1) := by decide +kernel
theorem dX7_shut_32 : decode cX7_shut 32 = .ok (.ireturn, 1) := by decide +kernel
theorem dX7_lapNow_0 : decode cX7_lapNow 0 = .ok (.iconst (-1), 1) := by decide +kernel
theorem dX7_lapNow_1 : decode cX7_lapNow 1 = .ok (.istore_n 3, 1) := by decide +kernel
theorem dX7_lapNow_2 : decode cX7_lapNow 2 = .ok (.iconst 0, 1) := by decide +kernel
theorem dX7_lapNow_3 : decode cX7_lapNow 3 = .ok (.istore 4, 2) := by decide +kernel
theorem dX7_lapNow_5 : decode cX7_lapNow 5 = .ok (.iload 4, 2) := by decide +kernel
theorem dX7_lapNow_7 : decode cX7_lapNow 7 = .ok (.aload_n 0, 1) := by decide +kernel
theorem dX7_lapNow_8 : decode cX7_lapNow 8 = .ok (.getfield 86, 3) := by decide +kernel
theorem dX7_lapNow_11 : decode cX7_lapNow 11 = .ok (.if_icmp .ge 79, 3) := by decide +kernel
theorem dX7_lapNow_14 : decode cX7_lapNow 14 = .ok (.aload_n 0, 1) := by decide +kernel
theorem dX7_lapNow_15 : decode cX7_lapNow 15 = .ok (.getfield 56, 3) := by decide +kernel
theorem dX7_lapNow_18 : decode cX7_lapNow 18 = .ok (.iload 4, 2) := by decide +kernel
theorem dX7_lapNow_20 : decode cX7_lapNow 20 = .ok (.iaload, 1) := by decide +kernel
theorem dX7_lapNow_21 : decode cX7_lapNow 21 = .ok (.iload_n 1, 1) := by decide +kernel
theorem dX7_lapNow_22 : decode cX7_lapNow 22 = .ok (.if_icmp .ne 28, 3) := by decide +kernel
theorem dX7_lapNow_25 : decode cX7_lapNow 25 = .ok (.aload_n 0, 1) := by decide +kernel
theorem dX7_lapNow_26 : decode cX7_lapNow 26 = .ok (.getfield 44, 3) := by decide +kernel
theorem dX7_lapNow_29 : decode cX7_lapNow 29 = .ok (.iload 4, 2) := by decide +kernel
theorem dX7_lapNow_31 : decode cX7_lapNow 31 = .ok (.iaload, 1) := by decide +kernel
theorem dX7_lapNow_32 : decode cX7_lapNow 32 = .ok (.iload_n 2, 1) := by decide +kernel
theorem dX7_lapNow_33 : decode cX7_lapNow 33 = .ok (.if_icmp .ne 17, 3) := by decide +kernel
theorem dX7_lapNow_36 : decode cX7_lapNow 36 = .ok (.aload_n 0, 1) := by decide +kernel
theorem dX7_lapNow_37 : decode cX7_lapNow 37 = .ok (.getfield 62, 3) := by decide +kernel
theorem dX7_lapNow_40 : decode cX7_lapNow 40 = .ok (.iload 4, 2) := by decide +kernel
theorem dX7_lapNow_42 : decode cX7_lapNow 42 = .ok (.baload, 1) := by decide +kernel
theorem dX7_lapNow_43 : decode cX7_lapNow 43 = .ok (.ifCond .ne 7, 3) := by decide +kernel
theorem dX7_lapNow_46 : decode cX7_lapNow 46 = .ok (.iconst 1, 1) := by decide +kernel
theorem dX7_lapNow_47 : decode cX7_lapNow 47 = .ok (.goto 4, 3) := by decide +kernel
theorem dX7_lapNow_50 : decode cX7_lapNow 50 = .ok (.iconst 0, 1) := by decide +kernel
theorem dX7_lapNow_51 : decode cX7_lapNow 51 = .ok (.istore 5, 2) := by decide +kernel
theorem dX7_lapNow_53 : decode cX7_lapNow 53 = .ok (.iload 5, 2) := by decide +kernel
theorem dX7_lapNow_55 : decode cX7_lapNow 55 = .ok (.ifCond .eq 27, 3) := by decide +kernel
theorem dX7_lapNow_58 : decode cX7_lapNow 58 = .ok (.iload_n 3, 1) := by decide +kernel
theorem dX7_lapNow_59 : decode cX7_lapNow 59 = .ok (.iconst (-1), 1) := by decide +kernel
theorem dX7_lapNow_60 : decode cX7_lapNow 60 = .ok (.if_icmp .eq 17, 3) := by decide +kernel
theorem dX7_lapNow_63 : decode cX7_lapNow 63 = .ok (.aload_n 0, 1) := by decide +kernel
theorem dX7_lapNow_64 : decode cX7_lapNow 64 = .ok (.iload 4, 2) := by decide +kernel
theorem dX7_lapNow_66 : decode cX7_lapNow 66 = .ok (.invokevirtual 156, 3) := by decide +kernel
theorem dX7_lapNow_69 : decode cX7_lapNow 69 = .ok (.aload_n 0, 1) := by decide +kernel
theorem dX7_lapNow_70 : decode cX7_lapNow 70 = .ok (.iload_n 3, 1) := by decide +kernel
theorem dX7_lapNow_71 : decode cX7_lapNow 71 = .ok (.invokevirtual 156, 3) := by decide +kernel
theorem dX7_lapNow_74 : decode cX7_lapNow 74 = .ok (.if_icmp .ge 8, 3) := by decide +kernel
theorem dX7_lapNow_77 : decode cX7_lapNow 77 = .ok (.iload 4, 2) := by decide +kernel
theorem dX7_lapNow_79 : decode cX7_lapNow 79 = .ok (.goto 4, 3) := by decide +kernel
theorem dX7_lapNow_82 : decode cX7_lapNow 82 = .ok (.iload_n 3, 1) := by decide +kernel
theorem dX7_lapNow_83 : decode cX7_lapNow 83 = .ok (.istore_n 3, 1) := by decide +kernel
theorem dX7_lapNow_84 : decode cX7_lapNow 84 = .ok (.iinc 4 1, 3) := by decide +kernel
theorem dX7_lapNow_87 : decode cX7_lapNow 87 = .ok (.goto (-82), 3) := by decide +kernel
theorem dX7_lapNow_90 : decode cX7_lapNow 90 = .ok (.iload_n 3, 1) := by decide +kernel
theorem dX7_lapNow_91 : decode cX7_lapNow 91 = .ok (.ireturn, 1) := by decide +kernel
theorem dX7_isNoSeat_0 : decode cX7_isNoSeat 0 = .ok (.iload_n 1, 1) := by decide +kernel
theorem dX7_isNoSeat_1 : decode cX7_isNoSeat 1 = .ok (.iconst 0, 1) := by decide +kernel
theorem dX7_isNoSeat_2 : decode cX7_isNoSeat 2 = .ok (.aload_n 0, 1) := by decide +kernel
theorem dX7_isNoSeat_3 : decode cX7_isNoSeat 3 = .ok (.getfield 150, 3) := by decide +kernel
theorem dX7_isNoSeat_6 : decode cX7_isNoSeat 6 = .ok (.iconst 1, 1) := by decide +kernel
theorem dX7_isNoSeat_7 : decode cX7_isNoSeat 7 = .ok (.isub, 1) := by decide +kernel
theorem dX7_isNoSeat_8 : decode cX7_isNoSeat 8 = .ok (.invokestatic 79, 3) := by decide +kernel
theorem dX7_isNoSeat_11 : decode cX7_isNoSeat 11 = .ok (.ifCond .eq 12, 3) := by decide +kernel
theorem dX7_isNoSeat_14 : decode cX7_isNoSeat 14 = .ok (.iload_n 2, 1) := by decide +kernel
theorem dX7_isNoSeat_15 : decode cX7_isNoSeat 15 = .ok (.iconst 0, 1) := by decide +kernel
theorem dX7_isNoSeat_16 : decode cX7_isNoSeat 16 = .ok (.iconst 5, 1) := by decide +kernel
theorem dX7_isNoSeat_17 : decode cX7_isNoSeat 17 = .ok (.invokestatic 79, 3) := by decide +kernel
theorem dX7_isNoSeat_20 : decode cX7_isNoSeat 20 = .ok (.ifCond .ne 7, 3) := by decide +kernel
theorem dX7_isNoSeat_23 : decode cX7_isNoSeat 23 = .ok (.iconst 1, 1) := by decide +kernel
theorem dX7_isNoSeat_24 : decode cX7_isNoSeat 24 = .ok (.goto 4, 3) := by decide +kernel
theorem dX7_isNoSeat_27 : decode cX7_isNoSeat 27 = .ok (.iconst 0, 1) := by decide +kernel
theorem dX7_isNoSeat_28 : decode cX7_isNoSeat 28 = .ok (.ireturn, 1) := by decide +kernel
theorem dX7_lapIn_0 : decode cX7_lapIn 0 = .ok (.aload_n 0, 1) := by decide +kernel
theorem dX7_lapIn_1 : decode cX7_lapIn 1 = .ok (.iload_n 1, 1) := by decide +kernel
theorem dX7_lapIn_2 : decode cX7_lapIn 2 = .ok (.iload_n 2, 1) := by decide +kernel
theorem dX7_lapIn_3 : decode cX7_lapIn 3 = .ok (.invokevirtual 169, 3) := by decide +kernel
theorem dX7_lapIn_6 : decode cX7_lapIn 6 = .ok (.istore_n 3, 1) := by decide +kernel
theorem dX7_lapIn_7 : decode cX7_lapIn 7 = .ok (.aload_n 0, 1) := by decide +kernel
theorem dX7_lapIn_8 : decode cX7_lapIn 8 = .ok (.aload_n 0, 1) := by decide +kernel
theorem dX7_lapIn_9 : decode cX7_lapIn 9 = .ok (.iload_n 1, 1) := by decide +kernel
theorem dX7_lapIn_10 : decode cX7_lapIn 10 = .ok (.iload_n 2, 1) := by decide +kernel
theorem dX7_lapIn_11 : decode cX7_lapIn 11 = .ok (.invokevirtual 172, 3) := by decide +kernel
theorem dX7_lapIn_14 : decode cX7_lapIn 14 = .ok (.ifCond .eq 7, 3) := by decide +kernel
theorem dX7_lapIn_17 : decode cX7_lapIn 17 = .ok (.iconst 1, 1) := by decide +kernel
theorem dX7_lapIn_18 : decode cX7_lapIn 18 = .ok (.goto 13, 3) := by decide +kernel
theorem dX7_lapIn_21 : decode cX7_lapIn 21 = .ok (.iload_n 3, 1) := by decide +kernel
theorem dX7_lapIn_22 : decode cX7_lapIn 22 = .ok (.iconst (-1), 1) := by decide +kernel
theorem dX7_lapIn_23 : decode cX7_lapIn 23 = .ok (.if_icmp .ne 7, 3) := by decide +kernel
theorem dX7_lapIn_26 : decode cX7_lapIn 26 = .ok (.iconst 2, 1) := by decide +kernel
theorem dX7_lapIn_27 : decode cX7_lapIn 27 = .ok (.goto 4, 3) := by decide +kernel
theorem dX7_lapIn_30 : decode cX7_lapIn 30 = .ok (.iconst 0, 1) := by decide +kernel
theorem dX7_lapIn_31 : decode cX7_lapIn 31 = .ok (.invokevirtual 89, 3) := by decide +kernel
theorem dX7_lapIn_34 : decode cX7_lapIn 34 = .ok (.ifCond .eq 7, 3) := by decide +kernel
theorem dX7_lapIn_37 : decode cX7_lapIn 37 = .ok (.iconst 0, 1) := by decide +kernel
theorem dX7_lapIn_38 : decode cX7_lapIn 38 = .ok (.goto 4, 3) := by decide +kernel
theorem dX7_lapIn_41 : decode cX7_lapIn 41 = .ok (.iload_n 3, 1) := by decide +kernel
theorem dX7_lapIn_42 : decode cX7_lapIn 42 = .ok (.ireturn, 1) := by decide +kernel
theorem dX7_placeNow_0 : decode cX7_placeNow 0 = .ok (.aload_n 0, 1) := by decide +kernel
theorem dX7_placeNow_1 : decode cX7_placeNow 1 = .ok (.iload_n 1, 1) := by decide +kernel
theorem dX7_placeNow_2 : decode cX7_placeNow 2 = .ok (.iload_n 2, 1) := by decide +kernel
theorem dX7_placeNow_3 : decode cX7_placeNow 3 = .ok (.invokevirtual 169, 3) := by decide +kernel
theorem dX7_placeNow_6 : decode cX7_placeNow 6 = .ok (.istore_n 3, 1) := by decide +kernel
theorem dX7_placeNow_7 : decode cX7_placeNow 7 = .ok (.iload_n 3, 1) := by decide +kernel
theorem dX7_placeNow_8 : decode cX7_placeNow 8 = .ok (.iconst (-1), 1) := by decide +kernel
theorem dX7_placeNow_9 : decode cX7_placeNow 9 = .ok (.if_icmp .ne 5, 3) := by decide +kernel
theorem dX7_placeNow_12 : decode cX7_placeNow 12 = .ok (.iconst 0, 1) := by decide +kernel
theorem dX7_placeNow_13 : decode cX7_placeNow 13 = .ok (.ireturn, 1) := by decide +kernel
theorem dX7_placeNow_14 : decode cX7_placeNow 14 = .ok (.iconst 1, 1) := by decide +kernel
theorem dX7_placeNow_15 : decode cX7_placeNow 15 = .ok (.istore 4, 2) := by decide +kernel
theorem dX7_placeNow_17 : decode cX7_placeNow 17 = .ok (.iconst 0, 1) := by decide +kernel
theorem dX7_placeNow_18 : decode cX7_placeNow 18 = .ok (.istore 5, 2) := by decide +kernel
theorem dX7_placeNow_20 : decode cX7_placeNow 20 = .ok (.iload 5, 2) := by decide +kernel
theorem dX7_placeNow_22 : decode cX7_placeNow 22 = .ok (.bipush 6, 2) := by decide +kernel
theorem dX7_placeNow_24 : decode cX7_placeNow 24 = .ok (.if_icmp .ge 78, 3) := by decide +kernel
theorem dX7_placeNow_27 : decode cX7_placeNow 27 = .ok (.iload 5, 2) := by decide +kernel
theorem dX7_placeNow_29 : decode cX7_placeNow 29 = .ok (.iload_n 2, 1) := by decide +kernel
theorem dX7_placeNow_30 : decode cX7_placeNow 30 = .ok (.if_icmp .ne 7, 3) := by decide +kernel
theorem dX7_placeNow_33 : decode cX7_placeNow 33 = .ok (.iconst (-1), 1) := by decide +kernel
theorem dX7_placeNow_34 : decode cX7_placeNow 34 = .ok (.goto 10, 3) := by decide +kernel
theorem dX7_placeNow_37 : decode cX7_placeNow 37 = .ok (.aload_n 0, 1) := by decide +kernel
theorem dX7_placeNow_38 : decode cX7_placeNow 38 = .ok (.iload_n 1, 1) := by decide +kernel
theorem dX7_placeNow_39 : decode cX7_placeNow 39 = .ok (.iload 5, 2) := by decide +kernel
theorem dX7_placeNow_41 : decode cX7_placeNow 41 = .ok (.invokevirtual 169, 3) := by decide +kernel
theorem dX7_placeNow_44 : decode cX7_placeNow 44 = .ok (.istore 6, 2) := by decide +kernel
theorem dX7_placeNow_46 : decode cX7_placeNow 46 = .ok (.iload 6, 2) := by decide +kernel
theorem dX7_placeNow_48 : decode cX7_placeNow 48 = .ok (.iconst (-1), 1) := by decide +kernel
theorem dX7_placeNow_49 : decode cX7_placeNow 49 = .ok (.if_icmp .eq 47, 3) := by decide +kernel
theorem dX7_placeNow_52 : decode cX7_placeNow 52 = .ok (.iload 4, 2) := by decide +kernel
theorem dX7_placeNow_54 : decode cX7_placeNow 54 = .ok (.aload_n 0, 1) := by decide +kernel
theorem dX7_placeNow_55 : decode cX7_placeNow 55 = .ok (.iload 6, 2) := by decide +kernel
theorem dX7_placeNow_57 : decode cX7_placeNow 57 = .ok (.invokevirtual 156, 3) := by decide +kernel
theorem dX7_placeNow_60 : decode cX7_placeNow 60 = .ok (.aload_n 0, 1) := by decide +kernel
theorem dX7_placeNow_61 : decode cX7_placeNow 61 = .ok (.iload_n 3, 1) := by decide +kernel
theorem dX7_placeNow_62 : decode cX7_placeNow 62 = .ok (.invokevirtual 156, 3) := by decide +kernel
theorem dX7_placeNow_65 : decode cX7_placeNow 65 = .ok (.if_icmp .lt 23, 3) := by decide +kernel
theorem dX7_placeNow_68 : decode cX7_placeNow 68 = .ok (.aload_n 0, 1) := by decide +kernel
theorem dX7_placeNow_69 : decode cX7_placeNow 69 = .ok (.iload 6, 2) := by decide +kernel
theorem dX7_placeNow_71 : decode cX7_placeNow 71 = .ok (.invokevirtual 156, 3) := by decide +kernel
theorem dX7_placeNow_74 : decode cX7_placeNow 74 = .ok (.aload_n 0, 1) := by decide +kernel
theorem dX7_placeNow_75 : decode cX7_placeNow 75 = .ok (.iload_n 3, 1) := by decide +kernel
theorem dX7_placeNow_76 : decode cX7_placeNow 76 = .ok (.invokevirtual 156, 3) := by decide +kernel
theorem dX7_placeNow_79 : decode cX7_placeNow 79 = .ok (.if_icmp .ne 13, 3) := by decide +kernel
theorem dX7_placeNow_82 : decode cX7_placeNow 82 = .ok (.iload 6, 2) := by decide +kernel
theorem dX7_placeNow_84 : decode cX7_placeNow 84 = .ok (.iload_n 3, 1) := by decide +kernel
theorem dX7_placeNow_85 : decode cX7_placeNow 85 = .ok (.if_icmp .ge 7, 3) := by decide +kernel
theorem dX7_placeNow_88 : decode cX7_placeNow 88 = .ok (.iconst 1, 1) := by decide +kernel
theorem dX7_placeNow_89 : decode cX7_placeNow 89 = .ok (.goto 4, 3) := by decide +kernel
theorem dX7_placeNow_92 : decode cX7_placeNow 92 = .ok (.iconst 0, 1) := by decide +kernel
theorem dX7_placeNow_93 : decode cX7_placeNow 93 = .ok (.iadd, 1) := by decide +kernel
theorem dX7_placeNow_94 : decode cX7_placeNow 94 = .ok (.istore 4, 2) := by decide +kernel
theorem dX7_placeNow_96 : decode cX7_placeNow 96 = .ok (.iinc 5 1, 3) := by decide +kernel
theorem dX7_placeNow_99 : decode cX7_placeNow 99 = .ok (.goto (-79), 3) := by decide +kernel
theorem dX7_placeNow_102 : decode cX7_placeNow 102 = .ok (.iload 4, 2) := by decide +kernel
theorem dX7_placeNow_104 : decode cX7_placeNow 104 = .ok (.ireturn, 1) := by decide +kernel
theorem dX7_placeIn_0 : decode cX7_placeIn 0 = .ok (.aload_n 0, 1) := by decide +kernel
theorem dX7_placeIn_1 : decode cX7_placeIn 1 = .ok (.iload_n 1, 1) := by decide +kernel
theorem dX7_placeIn_2 : decode cX7_placeIn 2 = .ok (.iload_n 2, 1) := by decide +kernel
theorem dX7_placeIn_3 : decode cX7_placeIn 3 = .ok (.invokevirtual 172, 3) := by decide +kernel
theorem dX7_placeIn_6 : decode cX7_placeIn 6 = .ok (.ifCond .eq 7, 3) := by decide +kernel
theorem dX7_placeIn_9 : decode cX7_placeIn 9 = .ok (.iconst 0, 1) := by decide +kernel
theorem dX7_placeIn_10 : decode cX7_placeIn 10 = .ok (.goto 9, 3) := by decide +kernel
theorem dX7_placeIn_13 : decode cX7_placeIn 13 = .ok (.aload_n 0, 1) := by decide +kernel
theorem dX7_placeIn_14 : decode cX7_placeIn 14 = .ok (.iload_n 1, 1) := by decide +kernel
theorem dX7_placeIn_15 : decode cX7_placeIn 15 = .ok (.iload_n 2, 1) := by decide +kernel
theorem dX7_placeIn_16 : decode cX7_placeIn 16 = .ok (.invokevirtual 175, 3) := by decide +kernel
theorem dX7_placeIn_19 : decode cX7_placeIn 19 = .ok (.istore_n 3, 1) := by decide +kernel
theorem dX7_placeIn_20 : decode cX7_placeIn 20 = .ok (.aload_n 0, 1) := by decide +kernel
theorem dX7_placeIn_21 : decode cX7_placeIn 21 = .ok (.aload_n 0, 1) := by decide +kernel
theorem dX7_placeIn_22 : decode cX7_placeIn 22 = .ok (.iload_n 1, 1) := by decide +kernel
theorem dX7_placeIn_23 : decode cX7_placeIn 23 = .ok (.iload_n 2, 1) := by decide +kernel
theorem dX7_placeIn_24 : decode cX7_placeIn 24 = .ok (.invokevirtual 172, 3) := by decide +kernel
theorem dX7_placeIn_27 : decode cX7_placeIn 27 = .ok (.ifCond .eq 7, 3) := by decide +kernel
theorem dX7_placeIn_30 : decode cX7_placeIn 30 = .ok (.iconst 1, 1) := by decide +kernel
theorem dX7_placeIn_31 : decode cX7_placeIn 31 = .ok (.goto 12, 3) := by decide +kernel
theorem dX7_placeIn_34 : decode cX7_placeIn 34 = .ok (.iload_n 3, 1) := by decide +kernel
theorem dX7_placeIn_35 : decode cX7_placeIn 35 = .ok (.ifCond .ne 7, 3) := by decide +kernel
theorem dX7_placeIn_38 : decode cX7_placeIn 38 = .ok (.iconst 2, 1) := by decide +kernel
theorem dX7_placeIn_39 : decode cX7_placeIn 39 = .ok (.goto 4, 3) := by decide +kernel
theorem dX7_placeIn_42 : decode cX7_placeIn 42 = .ok (.iconst 0, 1) := by decide +kernel
theorem dX7_placeIn_43 : decode cX7_placeIn 43 = .ok (.invokevirtual 89, 3) := by decide +kernel
theorem dX7_placeIn_46 : decode cX7_placeIn 46 = .ok (.ifCond .eq 7, 3) := by decide +kernel
theorem dX7_placeIn_49 : decode cX7_placeIn 49 = .ok (.iconst 0, 1) := by decide +kernel
theorem dX7_placeIn_50 : decode cX7_placeIn 50 = .ok (.goto 4, 3) := by decide +kernel
theorem dX7_placeIn_53 : decode cX7_placeIn 53 = .ok (.iload_n 3, 1) := by decide +kernel
theorem dX7_placeIn_54 : decode cX7_placeIn 54 = .ok (.ireturn, 1) := by decide +kernel
theorem dX7_drop_0 : decode cX7_drop 0 = .ok (.aload_n 0, 1) := by decide +kernel
theorem dX7_drop_1 : decode cX7_drop 1 = .ok (.iload_n 1, 1) := by decide +kernel
theorem dX7_drop_2 : decode cX7_drop 2 = .ok (.iconst 0, 1) := by decide +kernel
theorem dX7_drop_3 : decode cX7_drop 3 = .ok (.iconst 3, 1) := by decide +kernel
theorem dX7_drop_4 : decode cX7_drop 4 = .ok (.invokestatic 79, 3) := by decide +kernel
theorem dX7_drop_7 : decode cX7_drop 7 = .ok (.ifCond .eq 7, 3) := by decide +kernel
theorem dX7_drop_10 : decode cX7_drop 10 = .ok (.iconst 0, 1) := by decide +kernel
theorem dX7_drop_11 : decode cX7_drop 11 = .ok (.goto 4, 3) := by decide +kernel
theorem dX7_drop_14 : decode cX7_drop 14 = .ok (.iconst 1, 1) := by decide +kernel
theorem dX7_drop_15 : decode cX7_drop 15 = .ok (.invokevirtual 89, 3) := by decide +kernel
theorem dX7_drop_18 : decode cX7_drop 18 = .ok (.ifCond .eq 5, 3) := by decide +kernel
theorem dX7_drop_21 : decode cX7_drop 21 = .ok (.iconst 0, 1) := by decide +kernel
theorem dX7_drop_22 : decode cX7_drop 22 = .ok (.ireturn, 1) := by decide +kernel
theorem dX7_drop_23 : decode cX7_drop 23 = .ok (.aload_n 0, 1) := by decide +kernel
theorem dX7_drop_24 : decode cX7_drop 24 = .ok (.getfield 178, 3) := by decide +kernel
theorem dX7_drop_27 : decode cX7_drop 27 = .ok (.istore_n 2, 1) := by decide +kernel
theorem dX7_drop_28 : decode cX7_drop 28 = .ok (.aload_n 0, 1) := by decide +kernel
theorem dX7_drop_29 : decode cX7_drop 29 = .ok (.iload_n 1, 1) := by decide +kernel
theorem dX7_drop_30 : decode cX7_drop 30 = .ok (.putfield 178, 3) := by decide +kernel
theorem dX7_drop_33 : decode cX7_drop 33 = .ok (.iload_n 2, 1) := by decide +kernel
theorem dX7_drop_34 : decode cX7_drop 34 = .ok (.ireturn, 1) := by decide +kernel
theorem dX7_worth_0 : decode cX7_worth 0 = .ok (.iload_n 0, 1) := by decide +kernel
theorem dX7_worth_1 : decode cX7_worth 1 = .ok (.ifCond .ne 7, 3) := by decide +kernel
theorem dX7_worth_4 : decode cX7_worth 4 = .ok (.iconst 0, 1) := by decide +kernel
theorem dX7_worth_5 : decode cX7_worth 5 = .ok (.goto 27, 3) := by decide +kernel
theorem dX7_worth_8 : decode cX7_worth 8 = .ok (.iload_n 0, 1) := by decide +kernel
theorem dX7_worth_9 : decode cX7_worth 9 = .ok (.iconst 1, 1) := by decide +kernel
theorem dX7_worth_10 : decode cX7_worth 10 = .ok (.if_icmp .ne 8, 3) := by decide +kernel
theorem dX7_worth_13 : decode cX7_worth 13 = .ok (.bipush 10, 2) := by decide +kernel
theorem dX7_worth_15 : decode cX7_worth 15 = .ok (.goto 17, 3) := by decide +kernel
theorem dX7_worth_18 : decode cX7_worth 18 = .ok (.iload_n 0, 1) := by decide +kernel
theorem dX7_worth_19 : decode cX7_worth 19 = .ok (.iconst 2, 1) := by decide +kernel
theorem dX7_worth_20 : decode cX7_worth 20 = .ok (.if_icmp .ne 8, 3) := by decide +kernel
theorem dX7_worth_23 : decode cX7_worth 23 = .ok (.bipush 8, 2) := by decide +kernel
theorem dX7_worth_25 : decode cX7_worth 25 = .ok (.goto 7, 3) := by decide +kernel
theorem dX7_worth_28 : decode cX7_worth 28 = .ok (.bipush 9, 2) := by decide +kernel
theorem dX7_worth_30 : decode cX7_worth 30 = .ok (.iload_n 0, 1) := by decide +kernel
theorem dX7_worth_31 : decode cX7_worth 31 = .ok (.isub, 1) := by decide +kernel
theorem dX7_worth_32 : decode cX7_worth 32 = .ok (.ireturn, 1) := by decide +kernel
theorem dX7_pointsOf_0 : decode cX7_pointsOf 0 = .ok (.iconst 0, 1) := by decide +kernel
theorem dX7_pointsOf_1 : decode cX7_pointsOf 1 = .ok (.istore_n 2, 1) := by decide +kernel
theorem dX7_pointsOf_2 : decode cX7_pointsOf 2 = .ok (.iconst 0, 1) := by decide +kernel
theorem dX7_pointsOf_3 : decode cX7_pointsOf 3 = .ok (.istore_n 3, 1) := by decide +kernel
theorem dX7_pointsOf_4 : decode cX7_pointsOf 4 = .ok (.iload_n 3, 1) := by decide +kernel
theorem dX7_pointsOf_5 : decode cX7_pointsOf 5 = .ok (.aload_n 0, 1) := by decide +kernel
theorem dX7_pointsOf_6 : decode cX7_pointsOf 6 = .ok (.getfield 150, 3) := by decide +kernel
theorem dX7_pointsOf_9 : decode cX7_pointsOf 9 = .ok (.if_icmp .ge 33, 3) := by decide +kernel
theorem dX7_pointsOf_12 : decode cX7_pointsOf 12 = .ok (.aload_n 0, 1) := by decide +kernel
theorem dX7_pointsOf_13 : decode cX7_pointsOf 13 = .ok (.getfield 69, 3) := by decide +kernel
theorem dX7_pointsOf_16 : decode cX7_pointsOf 16 = .ok (.iload_n 3, 1) := by decide +kernel
theorem dX7_pointsOf_17 : decode cX7_pointsOf 17 = .ok (.aload_n 0, 1) := by decide +kernel
theorem dX7_pointsOf_18 : decode cX7_pointsOf 18 = .ok (.iload_n 3, 1) := by decide +kernel
theorem dX7_pointsOf_19 : decode cX7_pointsOf 19 = .ok (.iload_n 1, 1) := by decide +kernel
theorem dX7_pointsOf_20 : decode cX7_pointsOf 20 = .ok (.invokevirtual 175, 3) := by decide +kernel
theorem dX7_pointsOf_23 : decode cX7_pointsOf 23 = .ok (.invokestatic 181, 3) := by decide +kernel
theorem dX7_pointsOf_26 : decode cX7_pointsOf 26 = .ok (.iastore, 1) := by decide +kernel
theorem dX7_pointsOf_27 : decode cX7_pointsOf 27 = .ok (.iload_n 2, 1) := by decide +kernel
theorem dX7_pointsOf_28 : decode cX7_pointsOf 28 = .ok (.aload_n 0, 1) := by decide +kernel
theorem dX7_pointsOf_29 : decode cX7_pointsOf 29 = .ok (.getfield 69, 3) := by decide +kernel
theorem dX7_pointsOf_32 : decode cX7_pointsOf 32 = .ok (.iload_n 3, 1) := by decide +kernel
theorem dX7_pointsOf_33 : decode cX7_pointsOf 33 = .ok (.iaload, 1) := by decide +kernel
theorem dX7_pointsOf_34 : decode cX7_pointsOf 34 = .ok (.iadd, 1) := by decide +kernel
theorem dX7_pointsOf_35 : decode cX7_pointsOf 35 = .ok (.istore_n 2, 1) := by decide +kernel
theorem dX7_pointsOf_36 : decode cX7_pointsOf 36 = .ok (.iinc 3 1, 3) := by decide +kernel
theorem dX7_pointsOf_39 : decode cX7_pointsOf 39 = .ok (.goto (-35), 3) := by decide +kernel
theorem dX7_pointsOf_42 : decode cX7_pointsOf 42 = .ok (.iconst 0, 1) := by decide +kernel
theorem dX7_pointsOf_43 : decode cX7_pointsOf 43 = .ok (.istore_n 3, 1) := by decide +kernel
theorem dX7_pointsOf_44 : decode cX7_pointsOf 44 = .ok (.iload_n 3, 1) := by decide +kernel
theorem dX7_pointsOf_45 : decode cX7_pointsOf 45 = .ok (.aload_n 0, 1) := by decide +kernel
theorem dX7_pointsOf_46 : decode cX7_pointsOf 46 = .ok (.getfield 178, 3) := by decide +kernel
theorem dX7_pointsOf_49 : decode cX7_pointsOf 49 = .ok (.if_icmp .ge 83, 3) := by decide +kernel
theorem dX7_pointsOf_52 : decode cX7_pointsOf 52 = .ok (.iload_n 3, 1) := by decide +kernel
theorem dX7_pointsOf_53 : decode cX7_pointsOf 53 = .ok (.aload_n 0, 1) := by decide +kernel
theorem dX7_pointsOf_54 : decode cX7_pointsOf 54 = .ok (.getfield 150, 3) := by decide +kernel
theorem dX7_pointsOf_57 : decode cX7_pointsOf 57 = .ok (.if_icmp .ge 75, 3) := by decide +kernel
theorem dX7_pointsOf_60 : decode cX7_pointsOf 60 = .ok (.iconst 0, 1) := by decide +kernel
theorem dX7_pointsOf_61 : decode cX7_pointsOf 61 = .ok (.istore 4, 2) := by decide +kernel
theorem dX7_pointsOf_63 : decode cX7_pointsOf 63 = .ok (.iconst 1, 1) := by decide +kernel
theorem dX7_pointsOf_64 : decode cX7_pointsOf 64 = .ok (.istore 5, 2) := by decide +kernel
theorem dX7_pointsOf_66 : decode cX7_pointsOf 66 = .ok (.iload 5, 2) := by decide +kernel
theorem dX7_pointsOf_68 : decode cX7_pointsOf 68 = .ok (.aload_n 0, 1) := by decide +kernel
theorem dX7_pointsOf_69 : decode cX7_pointsOf 69 = .ok (.getfield 150, 3) := by decide +kernel
theorem dX7_pointsOf_72 : decode cX7_pointsOf 72 = .ok (.if_icmp .ge 35, 3) := by decide +kernel
theorem dX7_pointsOf_75 : decode cX7_pointsOf 75 = .ok (.aload_n 0, 1) := by decide +kernel
theorem dX7_pointsOf_76 : decode cX7_pointsOf 76 = .ok (.getfield 69, 3) := by decide +kernel
theorem dX7_pointsOf_79 : decode cX7_pointsOf 79 = .ok (.iload 5, 2) := by decide +kernel
theorem dX7_pointsOf_81 : decode cX7_pointsOf 81 = .ok (.iaload, 1) := by decide +kernel
theorem dX7_pointsOf_82 : decode cX7_pointsOf 82 = .ok (.aload_n 0, 1) := by decide +kernel
theorem dX7_pointsOf_83 : decode cX7_pointsOf 83 = .ok (.getfield 69, 3) := by decide +kernel
theorem dX7_pointsOf_86 : decode cX7_pointsOf 86 = .ok (.iload 4, 2) := by decide +kernel
theorem dX7_pointsOf_88 : decode cX7_pointsOf 88 = .ok (.iaload, 1) := by decide +kernel
theorem dX7_pointsOf_89 : decode cX7_pointsOf 89 = .ok (.if_icmp .ge 8, 3) := by decide +kernel
theorem dX7_pointsOf_92 : decode cX7_pointsOf 92 = .ok (.iload 5, 2) := by decide +kernel
theorem dX7_pointsOf_94 : decode cX7_pointsOf 94 = .ok (.goto 5, 3) := by decide +kernel
theorem dX7_pointsOf_97 : decode cX7_pointsOf 97 = .ok (.iload 4, 2) := by decide +kernel
theorem dX7_pointsOf_99 : decode cX7_pointsOf 99 = .ok (.istore 4, 2) := by decide +kernel
theorem dX7_pointsOf_101 : decode cX7_pointsOf 101 = .ok (.iinc 5 1, 3) := by decide +kernel
theorem dX7_pointsOf_104 : decode cX7_pointsOf 104 = .ok (.goto (-38), 3) := by decide +kernel
theorem dX7_pointsOf_107 : decode cX7_pointsOf 107 = .ok (.iload_n 2, 1) := by decide +kernel
theorem dX7_pointsOf_108 : decode cX7_pointsOf 108 = .ok (.aload_n 0, 1) := by decide +kernel
theorem dX7_pointsOf_109 : decode cX7_pointsOf 109 = .ok (.getfield 69, 3) := by decide +kernel
theorem dX7_pointsOf_112 : decode cX7_pointsOf 112 = .ok (.iload 4, 2) := by decide +kernel
theorem dX7_pointsOf_114 : decode cX7_pointsOf 114 = .ok (.iaload, 1) := by decide +kernel
theorem dX7_pointsOf_115 : decode cX7_pointsOf 115 = .ok (.isub, 1) := by decide +kernel
theorem dX7_pointsOf_116 : decode cX7_pointsOf 116 = .ok (.istore_n 2, 1) := by decide +kernel
theorem dX7_pointsOf_117 : decode cX7_pointsOf 117 = .ok (.aload_n 0, 1) := by decide +kernel
theorem dX7_pointsOf_118 : decode cX7_pointsOf 118 = .ok (.getfield 69, 3) := by decide +kernel
theorem dX7_pointsOf_121 : decode cX7_pointsOf 121 = .ok (.iload 4, 2) := by decide +kernel
theorem dX7_pointsOf_123 : decode cX7_pointsOf 123 = .ok (.bipush 99, 2) := by decide +kernel
theorem dX7_pointsOf_125 : decode cX7_pointsOf 125 = .ok (.iastore, 1) := by decide +kernel
theorem dX7_pointsOf_126 : decode cX7_pointsOf 126 = .ok (.iinc 3 1, 3) := by decide +kernel
theorem dX7_pointsOf_129 : decode cX7_pointsOf 129 = .ok (.goto (-85), 3) := by decide +kernel
theorem dX7_pointsOf_132 : decode cX7_pointsOf 132 = .ok (.iload_n 2, 1) := by decide +kernel
theorem dX7_pointsOf_133 : decode cX7_pointsOf 133 = .ok (.ireturn, 1) := by decide +kernel
theorem dX7_winsOf_0 : decode cX7_winsOf 0 = .ok (.iconst 0, 1) := by decide +kernel
theorem dX7_winsOf_1 : decode cX7_winsOf 1 = .ok (.istore_n 2, 1) := by decide +kernel
theorem dX7_winsOf_2 : decode cX7_winsOf 2 = .ok (.iconst 0, 1) := by decide +kernel
theorem dX7_winsOf_3 : decode cX7_winsOf 3 = .ok (.istore_n 3, 1) := by decide +kernel
theorem dX7_winsOf_4 : decode cX7_winsOf 4 = .ok (.iload_n 3, 1) := by decide +kernel
theorem dX7_winsOf_5 : decode cX7_winsOf 5 = .ok (.aload_n 0, 1) := by decide +kernel
theorem dX7_winsOf_6 : decode cX7_winsOf 6 = .ok (.getfield 150, 3) := by decide +kernel
theorem dX7_winsOf_9 : decode cX7_winsOf 9 = .ok (.if_icmp .ge 27, 3) := by decide +kernel
theorem dX7_winsOf_12 : decode cX7_winsOf 12 = .ok (.iload_n 2, 1) := by decide +kernel
theorem dX7_winsOf_13 : decode cX7_winsOf 13 = .ok (.aload_n 0, 1) := by decide +kernel
theorem dX7_winsOf_14 : decode cX7_winsOf 14 = .ok (.iload_n 3, 1) := by decide +kernel
theorem dX7_winsOf_15 : decode cX7_winsOf 15 = .ok (.iload_n 1, 1) := by decide +kernel
theorem dX7_winsOf_16 : decode cX7_winsOf 16 = .ok (.invokevirtual 175, 3) := by decide +kernel
theorem dX7_winsOf_19 : decode cX7_winsOf 19 = .ok (.iconst 1, 1) := by decide +kernel
theorem dX7_winsOf_20 : decode cX7_winsOf 20 = .ok (.if_icmp .ne 7, 3) := by decide +kernel
theorem dX7_winsOf_23 : decode cX7_winsOf 23 = .ok (.iconst 1, 1) := by decide +kernel
theorem dX7_winsOf_24 : decode cX7_winsOf 24 = .ok (.goto 4, 3) := by decide +kernel
theorem dX7_winsOf_27 : decode cX7_winsOf 27 = .ok (.iconst 0, 1) := by decide +kernel
theorem dX7_winsOf_28 : decode cX7_winsOf 28 = .ok (.iadd, 1) := by decide +kernel
theorem dX7_winsOf_29 : decode cX7_winsOf 29 = .ok (.istore_n 2, 1) := by decide +kernel
theorem dX7_winsOf_30 : decode cX7_winsOf 30 = .ok (.iinc 3 1, 3) := by decide +kernel
theorem dX7_winsOf_33 : decode cX7_winsOf 33 = .ok (.goto (-29), 3) := by decide +kernel
theorem dX7_winsOf_36 : decode cX7_winsOf 36 = .ok (.iload_n 2, 1) := by decide +kernel
theorem dX7_winsOf_37 : decode cX7_winsOf 37 = .ok (.ireturn, 1) := by decide +kernel
theorem dX7_isNoDriver_0 : decode cX7_isNoDriver 0 = .ok (.iload_n 0, 1) := by decide +kernel
theorem dX7_isNoDriver_1 : decode cX7_isNoDriver 1 = .ok (.iconst 0, 1) := by decide +kernel
theorem dX7_isNoDriver_2 : decode cX7_isNoDriver 2 = .ok (.iconst 5, 1) := by decide +kernel
theorem dX7_isNoDriver_3 : decode cX7_isNoDriver 3 = .ok (.invokestatic 79, 3) := by decide +kernel
theorem dX7_isNoDriver_6 : decode cX7_isNoDriver 6 = .ok (.ifCond .ne 7, 3) := by decide +kernel
theorem dX7_isNoDriver_9 : decode cX7_isNoDriver 9 = .ok (.iconst 1, 1) := by decide +kernel
theorem dX7_isNoDriver_10 : decode cX7_isNoDriver 10 = .ok (.goto 4, 3) := by decide +kernel
theorem dX7_isNoDriver_13 : decode cX7_isNoDriver 13 = .ok (.iconst 0, 1) := by decide +kernel
theorem dX7_isNoDriver_14 : decode cX7_isNoDriver 14 = .ok (.ireturn, 1) := by decide +kernel
theorem dX7_points_0 : decode cX7_points 0 = .ok (.aload_n 0, 1) := by decide +kernel
theorem dX7_points_1 : decode cX7_points 1 = .ok (.iload_n 1, 1) := by decide +kernel
theorem dX7_points_2 : decode cX7_points 2 = .ok (.invokestatic 184, 3) := by decide +kernel
theorem dX7_points_5 : decode cX7_points 5 = .ok (.ifCond .eq 7, 3) := by decide +kernel
theorem dX7_points_8 : decode cX7_points 8 = .ok (.iconst 1, 1) := by decide +kernel
theorem dX7_points_9 : decode cX7_points 9 = .ok (.goto 4, 3) := by decide +kernel
theorem dX7_points_12 : decode cX7_points 12 = .ok (.iconst 0, 1) := by decide +kernel
theorem dX7_points_13 : decode cX7_points 13 = .ok (.invokevirtual 89, 3) := by decide +kernel
theorem dX7_points_16 : decode cX7_points 16 = .ok (.ifCond .eq 7, 3) := by decide +kernel
theorem dX7_points_19 : decode cX7_points 19 = .ok (.iconst 0, 1) := by decide +kernel
theorem dX7_points_20 : decode cX7_points 20 = .ok (.goto 8, 3) := by decide +kernel
theorem dX7_points_23 : decode cX7_points 23 = .ok (.aload_n 0, 1) := by decide +kernel
theorem dX7_points_24 : decode cX7_points 24 = .ok (.iload_n 1, 1) := by decide +kernel
theorem dX7_points_25 : decode cX7_points 25 = .ok (.invokevirtual 187, 3) := by decide +kernel
theorem dX7_points_28 : decode cX7_points 28 = .ok (.ireturn, 1) := by decide +kernel
theorem dX7_wins_0 : decode cX7_wins 0 = .ok (.aload_n 0, 1) := by decide +kernel
theorem dX7_wins_1 : decode cX7_wins 1 = .ok (.iload_n 1, 1) := by decide +kernel
theorem dX7_wins_2 : decode cX7_wins 2 = .ok (.invokestatic 184, 3) := by decide +kernel
theorem dX7_wins_5 : decode cX7_wins 5 = .ok (.ifCond .eq 7, 3) := by decide +kernel
theorem dX7_wins_8 : decode cX7_wins 8 = .ok (.iconst 1, 1) := by decide +kernel
theorem dX7_wins_9 : decode cX7_wins 9 = .ok (.goto 4, 3) := by decide +kernel
theorem dX7_wins_12 : decode cX7_wins 12 = .ok (.iconst 0, 1) := by decide +kernel
theorem dX7_wins_13 : decode cX7_wins 13 = .ok (.invokevirtual 89, 3) := by decide +kernel
theorem dX7_wins_16 : decode cX7_wins 16 = .ok (.ifCond .eq 7, 3) := by decide +kernel
theorem dX7_wins_19 : decode cX7_wins 19 = .ok (.iconst 0, 1) := by decide +kernel
theorem dX7_wins_20 : decode cX7_wins 20 = .ok (.goto 8, 3) := by decide +kernel
theorem dX7_wins_23 : decode cX7_wins 23 = .ok (.aload_n 0, 1) := by decide +kernel
theorem dX7_wins_24 : decode cX7_wins 24 = .ok (.iload_n 1, 1) := by decide +kernel
theorem dX7_wins_25 : decode cX7_wins 25 = .ok (.invokevirtual 190, 3) := by decide +kernel
theorem dX7_wins_28 : decode cX7_wins 28 = .ok (.ireturn, 1) := by decide +kernel
theorem dX7_standing_0 : decode cX7_standing 0 = .ok (.aload_n 0, 1) := by decide +kernel
theorem dX7_standing_1 : decode cX7_standing 1 = .ok (.iload_n 1, 1) := by decide +kernel
theorem dX7_standing_2 : decode cX7_standing 2 = .ok (.invokestatic 184, 3) := by decide +kernel
theorem dX7_standing_5 : decode cX7_standing 5 = .ok (.ifCond .eq 7, 3) := by decide +kernel
theorem dX7_standing_8 : decode cX7_standing 8 = .ok (.iconst 1, 1) := by decide +kernel
theorem dX7_standing_9 : decode cX7_standing 9 = .ok (.goto 4, 3) := by decide +kernel
theorem dX7_standing_12 : decode cX7_standing 12 = .ok (.iconst 0, 1) := by decide +kernel
theorem dX7_standing_13 : decode cX7_standing 13 = .ok (.invokevirtual 89, 3) := by decide +kernel
theorem dX7_standing_16 : decode cX7_standing 16 = .ok (.ifCond .eq 5, 3) := by decide +kernel
theorem dX7_standing_19 : decode cX7_standing 19 = .ok (.iconst 0, 1) := by decide +kernel
theorem dX7_standing_20 : decode cX7_standing 20 = .ok (.ireturn, 1) := by decide +kernel
theorem dX7_standing_21 : decode cX7_standing 21 = .ok (.iconst 0, 1) := by decide +kernel
theorem dX7_standing_22 : decode cX7_standing 22 = .ok (.istore_n 2, 1) := by decide +kernel
theorem dX7_standing_23 : decode cX7_standing 23 = .ok (.iconst 0, 1) := by decide +kernel
theorem dX7_standing_24 : decode cX7_standing 24 = .ok (.istore_n 3, 1) := by decide +kernel
theorem dX7_standing_25 : decode cX7_standing 25 = .ok (.iload_n 3, 1) := by decide +kernel
theorem dX7_standing_26 : decode cX7_standing 26 = .ok (.bipush 6, 2) := by decide +kernel
theorem dX7_standing_28 : decode cX7_standing 28 = .ok (.if_icmp .ge 105, 3) := by decide +kernel
theorem dX7_standing_31 : decode cX7_standing 31 = .ok (.iconst 0, 1) := by decide +kernel
theorem dX7_standing_32 : decode cX7_standing 32 = .ok (.istore 4, 2) := by decide +kernel
theorem dX7_standing_34 : decode cX7_standing 34 = .ok (.iconst 0, 1) := by decide +kernel
theorem dX7_standing_35 : decode cX7_standing 35 = .ok (.istore 5, 2) := by decide +kernel
theorem dX7_standing_37 : decode cX7_standing 37 = .ok (.iload 5, 2) := by decide +kernel
theorem dX7_standing_39 : decode cX7_standing 39 = .ok (.bipush 6, 2) := by decide +kernel
theorem dX7_standing_41 : decode cX7_standing 41 = .ok (.if_icmp .ge 74, 3) := by decide +kernel
theorem dX7_standing_44 : decode cX7_standing 44 = .ok (.aload_n 0, 1) := by decide +kernel
theorem dX7_standing_45 : decode cX7_standing 45 = .ok (.iload 5, 2) := by decide +kernel
theorem dX7_standing_47 : decode cX7_standing 47 = .ok (.invokevirtual 187, 3) := by decide +kernel
theorem dX7_standing_50 : decode cX7_standing 50 = .ok (.aload_n 0, 1) := by decide +kernel
theorem dX7_standing_51 : decode cX7_standing 51 = .ok (.iload_n 3, 1) := by decide +kernel
theorem dX7_standing_52 : decode cX7_standing 52 = .ok (.invokevirtual 187, 3) := by decide +kernel
theorem dX7_standing_55 : decode cX7_standing 55 = .ok (.isub, 1) := by decide +kernel
theorem dX7_standing_56 : decode cX7_standing 56 = .ok (.istore 6, 2) := by decide +kernel
theorem dX7_standing_58 : decode cX7_standing 58 = .ok (.iload 6, 2) := by decide +kernel
theorem dX7_standing_60 : decode cX7_standing 60 = .ok (.ifCond .ne 17, 3) := by decide +kernel
theorem dX7_standing_63 : decode cX7_standing 63 = .ok (.aload_n 0, 1) := by decide +kernel
theorem dX7_standing_64 : decode cX7_standing 64 = .ok (.iload 5, 2) := by decide +kernel
theorem dX7_standing_66 : decode cX7_standing 66 = .ok (.invokevirtual 190, 3) := by decide +kernel
theorem dX7_standing_69 : decode cX7_standing 69 = .ok (.aload_n 0, 1) := by decide +kernel
theorem dX7_standing_70 : decode cX7_standing 70 = .ok (.iload_n 3, 1) := by decide +kernel
theorem dX7_standing_71 : decode cX7_standing 71 = .ok (.invokevirtual 190, 3) := by decide +kernel
theorem dX7_standing_74 : decode cX7_standing 74 = .ok (.isub, 1) := by decide +kernel
theorem dX7_standing_75 : decode cX7_standing 75 = .ok (.istore 6, 2) := by decide +kernel
theorem dX7_standing_77 : decode cX7_standing 77 = .ok (.iload 4, 2) := by decide +kernel
theorem dX7_standing_79 : decode cX7_standing 79 = .ok (.iload 5, 2) := by decide +kernel
theorem dX7_standing_81 : decode cX7_standing 81 = .ok (.iload_n 3, 1) := by decide +kernel
theorem dX7_standing_82 : decode cX7_standing 82 = .ok (.if_icmp .eq 23, 3) := by decide +kernel
theorem dX7_standing_85 : decode cX7_standing 85 = .ok (.iload 6, 2) := by decide +kernel
theorem dX7_standing_87 : decode cX7_standing 87 = .ok (.ifCond .gt 14, 3) := by decide +kernel
theorem dX7_standing_90 : decode cX7_standing 90 = .ok (.iload 6, 2) := by decide +kernel
theorem dX7_standing_92 : decode cX7_standing 92 = .ok (.ifCond .ne 13, 3) := by decide +kernel
theorem dX7_standing_95 : decode cX7_standing 95 = .ok (.iload 5, 2) := by decide +kernel
theorem dX7_standing_97 : decode cX7_standing 97 = .ok (.iload_n 3, 1) := by decide +kernel
theorem dX7_standing_98 : decode cX7_standing 98 = .ok (.if_icmp .ge 7, 3) := by decide +kernel
theorem dX7_standing_101 : decode cX7_standing 101 = .ok (.iconst 1, 1) := by decide +kernel
theorem dX7_standing_102 : decode cX7_standing 102 = .ok (.goto 4, 3) := by decide +kernel
theorem dX7_standing_105 : decode cX7_standing 105 = .ok (.iconst 0, 1) := by decide +kernel
theorem dX7_standing_106 : decode cX7_standing 106 = .ok (.iadd, 1) := by decide +kernel
theorem dX7_standing_107 : decode cX7_standing 107 = .ok (.istore 4, 2) := by decide +kernel
theorem dX7_standing_109 : decode cX7_standing 109 = .ok (.iinc 5 1, 3) := by decide +kernel
theorem dX7_standing_112 : decode cX7_standing 112 = .ok (.goto (-75), 3) := by decide +kernel
theorem dX7_standing_115 : decode cX7_standing 115 = .ok (.iload 4, 2) := by decide +kernel
theorem dX7_standing_117 : decode cX7_standing 117 = .ok (.iload_n 1, 1) := by decide +kernel
theorem dX7_standing_118 : decode cX7_standing 118 = .ok (.if_icmp .ne 7, 3) := by decide +kernel
theorem dX7_standing_121 : decode cX7_standing 121 = .ok (.iload_n 3, 1) := by decide +kernel
theorem dX7_standing_122 : decode cX7_standing 122 = .ok (.goto 4, 3) := by decide +kernel
theorem dX7_standing_125 : decode cX7_standing 125 = .ok (.iload_n 2, 1) := by decide +kernel
theorem dX7_standing_126 : decode cX7_standing 126 = .ok (.istore_n 2, 1) := by decide +kernel
theorem dX7_standing_127 : decode cX7_standing 127 = .ok (.iinc 3 1, 3) := by decide +kernel
theorem dX7_standing_130 : decode cX7_standing 130 = .ok (.goto (-105), 3) := by decide +kernel
theorem dX7_standing_133 : decode cX7_standing 133 = .ok (.iload_n 2, 1) := by decide +kernel
theorem dX7_standing_134 : decode cX7_standing 134 = .ok (.ireturn, 1) := by decide +kernel
theorem dX7_checksum_0 : decode cX7_checksum 0 = .ok (.aload_n 0, 1) := by decide +kernel
theorem dX7_checksum_1 : decode cX7_checksum 1 = .ok (.iconst 0, 1) := by decide +kernel
theorem dX7_checksum_2 : decode cX7_checksum 2 = .ok (.putfield 72, 3) := by decide +kernel
theorem dX7_checksum_5 : decode cX7_checksum 5 = .ok (.ldc2_w 193, 3) := by decide +kernel
theorem dX7_checksum_8 : decode cX7_checksum 8 = .ok (.lstore_n 1, 1) := by decide +kernel
theorem dX7_checksum_9 : decode cX7_checksum 9 = .ok (.iconst 0, 1) := by decide +kernel
theorem dX7_checksum_10 : decode cX7_checksum 10 = .ok (.istore_n 3, 1) := by decide +kernel
theorem dX7_checksum_11 : decode cX7_checksum 11 = .ok (.iload_n 3, 1) := by decide +kernel
theorem dX7_checksum_12 : decode cX7_checksum 12 = .ok (.aload_n 0, 1) := by decide +kernel
theorem dX7_checksum_13 : decode cX7_checksum 13 = .ok (.getfield 86, 3) := by decide +kernel
theorem dX7_checksum_16 : decode cX7_checksum 16 = .ok (.if_icmp .ge 54, 3) := by decide +kernel
theorem dX7_checksum_19 : decode cX7_checksum 19 = .ok (.ldc2_w 195, 3) := by decide +kernel
theorem dX7_checksum_22 : decode cX7_checksum 22 = .ok (.lload_n 1, 1) := by decide +kernel
theorem dX7_checksum_23 : decode cX7_checksum 23 = .ok (.lmul, 1) := by decide +kernel
theorem dX7_checksum_24 : decode cX7_checksum 24 = .ok (.aload_n 0, 1) := by decide +kernel
theorem dX7_checksum_25 : decode cX7_checksum 25 = .ok (.getfield 38, 3) := by decide +kernel
theorem dX7_checksum_28 : decode cX7_checksum 28 = .ok (.iload_n 3, 1) := by decide +kernel
theorem dX7_checksum_29 : decode cX7_checksum 29 = .ok (.iaload, 1) := by decide +kernel
theorem dX7_checksum_30 : decode cX7_checksum 30 = .ok (.i2l, 1) := by decide +kernel
theorem dX7_checksum_31 : decode cX7_checksum 31 = .ok (.ladd, 1) := by decide +kernel
theorem dX7_checksum_32 : decode cX7_checksum 32 = .ok (.aload_n 0, 1) := by decide +kernel
theorem dX7_checksum_33 : decode cX7_checksum 33 = .ok (.getfield 41, 3) := by decide +kernel
theorem dX7_checksum_36 : decode cX7_checksum 36 = .ok (.iload_n 3, 1) := by decide +kernel
theorem dX7_checksum_37 : decode cX7_checksum 37 = .ok (.iaload, 1) := by decide +kernel
theorem dX7_checksum_38 : decode cX7_checksum 38 = .ok (.i2l, 1) := by decide +kernel
theorem dX7_checksum_39 : decode cX7_checksum 39 = .ok (.ladd, 1) := by decide +kernel
theorem dX7_checksum_40 : decode cX7_checksum 40 = .ok (.aload_n 0, 1) := by decide +kernel
theorem dX7_checksum_41 : decode cX7_checksum 41 = .ok (.iload_n 3, 1) := by decide +kernel
theorem dX7_checksum_42 : decode cX7_checksum 42 = .ok (.invokevirtual 159, 3) := by decide +kernel
theorem dX7_checksum_45 : decode cX7_checksum 45 = .ok (.i2l, 1) := by decide +kernel
theorem dX7_checksum_46 : decode cX7_checksum 46 = .ok (.ladd, 1) := by decide +kernel
theorem dX7_checksum_47 : decode cX7_checksum 47 = .ok (.aload_n 0, 1) := by decide +kernel
theorem dX7_checksum_48 : decode cX7_checksum 48 = .ok (.getfield 62, 3) := by decide +kernel
theorem dX7_checksum_51 : decode cX7_checksum 51 = .ok (.iload_n 3, 1) := by decide +kernel
theorem dX7_checksum_52 : decode cX7_checksum 52 = .ok (.baload, 1) := by decide +kernel
theorem dX7_checksum_53 : decode cX7_checksum 53 = .ok (.ifCond .eq 7, 3) := by decide +kernel
theorem dX7_checksum_56 : decode cX7_checksum 56 = .ok (.iconst 0, 1) := by decide +kernel
theorem dX7_checksum_57 : decode cX7_checksum 57 = .ok (.goto 4, 3) := by decide +kernel
theorem dX7_checksum_60 : decode cX7_checksum 60 = .ok (.iconst 1, 1) := by decide +kernel
theorem dX7_checksum_61 : decode cX7_checksum 61 = .ok (.i2l, 1) := by decide +kernel
theorem dX7_checksum_62 : decode cX7_checksum 62 = .ok (.ladd, 1) := by decide +kernel
theorem dX7_checksum_63 : decode cX7_checksum 63 = .ok (.lstore_n 1, 1) := by decide +kernel
theorem dX7_checksum_64 : decode cX7_checksum 64 = .ok (.iinc 3 1, 3) := by decide +kernel
theorem dX7_checksum_67 : decode cX7_checksum 67 = .ok (.goto (-56), 3) := by decide +kernel
theorem dX7_checksum_70 : decode cX7_checksum 70 = .ok (.lload_n 1, 1) := by decide +kernel
theorem dX7_checksum_71 : decode cX7_checksum 71 = .ok (.lreturn, 1) := by decide +kernel
theorem dX7_shareStored_0 : decode cX7_shareStored 0 = .ok (.iconst 0, 1) := by decide +kernel
theorem dX7_shareStored_1 : decode cX7_shareStored 1 = .ok (.istore_n 1, 1) := by decide +kernel
theorem dX7_shareStored_2 : decode cX7_shareStored 2 = .ok (.iconst 0, 1) := by decide +kernel
theorem dX7_shareStored_3 : decode cX7_shareStored 3 = .ok (.istore_n 2, 1) := by decide +kernel
theorem dX7_shareStored_4 : decode cX7_shareStored 4 = .ok (.iload_n 2, 1) := by decide +kernel
theorem dX7_shareStored_5 : decode cX7_shareStored 5 = .ok (.aload_n 0, 1) := by decide +kernel
theorem dX7_shareStored_6 : decode cX7_shareStored 6 = .ok (.getfield 86, 3) := by decide +kernel
theorem dX7_shareStored_9 : decode cX7_shareStored 9 = .ok (.if_icmp .ge 18, 3) := by decide +kernel
theorem dX7_shareStored_12 : decode cX7_shareStored 12 = .ok (.iload_n 1, 1) := by decide +kernel
theorem dX7_shareStored_13 : decode cX7_shareStored 13 = .ok (.aload_n 0, 1) := by decide +kernel
theorem dX7_shareStored_14 : decode cX7_shareStored 14 = .ok (.getfield 35, 3) := by decide +kernel
theorem dX7_shareStored_17 : decode cX7_shareStored 17 = .ok (.iload_n 2, 1) := by decide +kernel
theorem dX7_shareStored_18 : decode cX7_shareStored 18 = .ok (.iaload, 1) := by decide +kernel
theorem dX7_shareStored_19 : decode cX7_shareStored 19 = .ok (.iadd, 1) := by decide +kernel
theorem dX7_shareStored_20 : decode cX7_shareStored 20 = .ok (.istore_n 1, 1) := by decide +kernel
theorem dX7_shareStored_21 : decode cX7_shareStored 21 = .ok (.iinc 2 1, 3) := by decide +kernel
theorem dX7_shareStored_24 : decode cX7_shareStored 24 = .ok (.goto (-20), 3) := by decide +kernel
theorem dX7_shareStored_27 : decode cX7_shareStored 27 = .ok (.aload_n 0, 1) := by decide +kernel
theorem dX7_shareStored_28 : decode cX7_shareStored 28 = .ok (.aload_n 0, 1) := by decide +kernel
theorem dX7_shareStored_29 : decode cX7_shareStored 29 = .ok (.getfield 86, 3) := by decide +kernel
theorem dX7_shareStored_32 : decode cX7_shareStored 32 = .ok (.ifCond .ne 7, 3) := by decide +kernel
theorem dX7_shareStored_35 : decode cX7_shareStored 35 = .ok (.iconst 1, 1) := by decide +kernel
theorem dX7_shareStored_36 : decode cX7_shareStored 36 = .ok (.goto 4, 3) := by decide +kernel
theorem dX7_shareStored_39 : decode cX7_shareStored 39 = .ok (.iconst 0, 1) := by decide +kernel
theorem dX7_shareStored_40 : decode cX7_shareStored 40 = .ok (.invokevirtual 89, 3) := by decide +kernel
theorem dX7_shareStored_43 : decode cX7_shareStored 43 = .ok (.ifCond .eq 7, 3) := by decide +kernel
theorem dX7_shareStored_46 : decode cX7_shareStored 46 = .ok (.fconst 0, 1) := by decide +kernel
theorem dX7_shareStored_47 : decode cX7_shareStored 47 = .ok (.goto 11, 3) := by decide +kernel
theorem dX7_shareStored_50 : decode cX7_shareStored 50 = .ok (.aload_n 0, 1) := by decide +kernel
theorem dX7_shareStored_51 : decode cX7_shareStored 51 = .ok (.invokevirtual 162, 3) := by decide +kernel
theorem dX7_shareStored_54 : decode cX7_shareStored 54 = .ok (.i2f, 1) := by decide +kernel
theorem dX7_shareStored_55 : decode cX7_shareStored 55 = .ok (.iload_n 1, 1) := by decide +kernel
theorem dX7_shareStored_56 : decode cX7_shareStored 56 = .ok (.i2f, 1) := by decide +kernel
theorem dX7_shareStored_57 : decode cX7_shareStored 57 = .ok (.fdiv, 1) := by decide +kernel
theorem dX7_shareStored_58 : decode cX7_shareStored 58 = .ok (.freturn, 1) := by decide +kernel
theorem dX7_meanTime_0 : decode cX7_meanTime 0 = .ok (.iconst 0, 1) := by decide +kernel
theorem dX7_meanTime_1 : decode cX7_meanTime 1 = .ok (.istore_n 1, 1) := by decide +kernel
theorem dX7_meanTime_2 : decode cX7_meanTime 2 = .ok (.iconst 0, 1) := by decide +kernel
theorem dX7_meanTime_3 : decode cX7_meanTime 3 = .ok (.istore_n 2, 1) := by decide +kernel
theorem dX7_meanTime_4 : decode cX7_meanTime 4 = .ok (.iconst 0, 1) := by decide +kernel
theorem dX7_meanTime_5 : decode cX7_meanTime 5 = .ok (.istore_n 3, 1) := by decide +kernel
theorem dX7_meanTime_6 : decode cX7_meanTime 6 = .ok (.iload_n 3, 1) := by decide +kernel
theorem dX7_meanTime_7 : decode cX7_meanTime 7 = .ok (.aload_n 0, 1) := by decide +kernel
theorem dX7_meanTime_8 : decode cX7_meanTime 8 = .ok (.getfield 86, 3) := by decide +kernel
theorem dX7_meanTime_11 : decode cX7_meanTime 11 = .ok (.if_icmp .ge 47, 3) := by decide +kernel
theorem dX7_meanTime_14 : decode cX7_meanTime 14 = .ok (.iload_n 1, 1) := by decide +kernel
theorem dX7_meanTime_15 : decode cX7_meanTime 15 = .ok (.aload_n 0, 1) := by decide +kernel
theorem dX7_meanTime_16 : decode cX7_meanTime 16 = .ok (.getfield 62, 3) := by decide +kernel
theorem dX7_meanTime_19 : decode cX7_meanTime 19 = .ok (.iload_n 3, 1) := by decide +kernel
theorem dX7_meanTime_20 : decode cX7_meanTime 20 = .ok (.baload, 1) := by decide +kernel
theorem dX7_meanTime_21 : decode cX7_meanTime 21 = .ok (.ifCond .eq 7, 3) := by decide +kernel
theorem dX7_meanTime_24 : decode cX7_meanTime 24 = .ok (.iconst 0, 1) := by decide +kernel
theorem dX7_meanTime_25 : decode cX7_meanTime 25 = .ok (.goto 4, 3) := by decide +kernel
theorem dX7_meanTime_28 : decode cX7_meanTime 28 = .ok (.iconst 1, 1) := by decide +kernel
theorem dX7_meanTime_29 : decode cX7_meanTime 29 = .ok (.iadd, 1) := by decide +kernel
theorem dX7_meanTime_30 : decode cX7_meanTime 30 = .ok (.istore_n 1, 1) := by decide +kernel
theorem dX7_meanTime_31 : decode cX7_meanTime 31 = .ok (.iload_n 2, 1) := by decide +kernel
theorem dX7_meanTime_32 : decode cX7_meanTime 32 = .ok (.aload_n 0, 1) := by decide +kernel
theorem dX7_meanTime_33 : decode cX7_meanTime 33 = .ok (.getfield 62, 3) := by decide +kernel
theorem dX7_meanTime_36 : decode cX7_meanTime 36 = .ok (.iload_n 3, 1) := by decide +kernel
theorem dX7_meanTime_37 : decode cX7_meanTime 37 = .ok (.baload, 1) := by decide +kernel
theorem dX7_meanTime_38 : decode cX7_meanTime 38 = .ok (.ifCond .eq 7, 3) := by decide +kernel
theorem dX7_meanTime_41 : decode cX7_meanTime 41 = .ok (.iconst 0, 1) := by decide +kernel
theorem dX7_meanTime_42 : decode cX7_meanTime 42 = .ok (.goto 8, 3) := by decide +kernel
theorem dX7_meanTime_45 : decode cX7_meanTime 45 = .ok (.aload_n 0, 1) := by decide +kernel
theorem dX7_meanTime_46 : decode cX7_meanTime 46 = .ok (.iload_n 3, 1) := by decide +kernel
theorem dX7_meanTime_47 : decode cX7_meanTime 47 = .ok (.invokevirtual 156, 3) := by decide +kernel
theorem dX7_meanTime_50 : decode cX7_meanTime 50 = .ok (.iadd, 1) := by decide +kernel
theorem dX7_meanTime_51 : decode cX7_meanTime 51 = .ok (.istore_n 2, 1) := by decide +kernel
theorem dX7_meanTime_52 : decode cX7_meanTime 52 = .ok (.iinc 3 1, 3) := by decide +kernel
theorem dX7_meanTime_55 : decode cX7_meanTime 55 = .ok (.goto (-49), 3) := by decide +kernel
theorem dX7_meanTime_58 : decode cX7_meanTime 58 = .ok (.aload_n 0, 1) := by decide +kernel
theorem dX7_meanTime_59 : decode cX7_meanTime 59 = .ok (.iload_n 1, 1) := by decide +kernel
theorem dX7_meanTime_60 : decode cX7_meanTime 60 = .ok (.ifCond .ne 7, 3) := by decide +kernel
theorem dX7_meanTime_63 : decode cX7_meanTime 63 = .ok (.iconst 1, 1) := by decide +kernel
theorem dX7_meanTime_64 : decode cX7_meanTime 64 = .ok (.goto 4, 3) := by decide +kernel
theorem dX7_meanTime_67 : decode cX7_meanTime 67 = .ok (.iconst 0, 1) := by decide +kernel
theorem dX7_meanTime_68 : decode cX7_meanTime 68 = .ok (.invokevirtual 89, 3) := by decide +kernel
theorem dX7_meanTime_71 : decode cX7_meanTime 71 = .ok (.ifCond .eq 7, 3) := by decide +kernel
theorem dX7_meanTime_74 : decode cX7_meanTime 74 = .ok (.dconst 0, 1) := by decide +kernel
theorem dX7_meanTime_75 : decode cX7_meanTime 75 = .ok (.goto 8, 3) := by decide +kernel
theorem dX7_meanTime_78 : decode cX7_meanTime 78 = .ok (.iload_n 2, 1) := by decide +kernel
theorem dX7_meanTime_79 : decode cX7_meanTime 79 = .ok (.i2d, 1) := by decide +kernel
theorem dX7_meanTime_80 : decode cX7_meanTime 80 = .ok (.iload_n 1, 1) := by decide +kernel
theorem dX7_meanTime_81 : decode cX7_meanTime 81 = .ok (.i2d, 1) := by decide +kernel
theorem dX7_meanTime_82 : decode cX7_meanTime 82 = .ok (.ddiv, 1) := by decide +kernel
theorem dX7_meanTime_83 : decode cX7_meanTime 83 = .ok (.dreturn, 1) := by decide +kernel
theorem dX7_isSound_0 : decode cX7_isSound 0 = .ok (.aload_n 0, 1) := by decide +kernel
theorem dX7_isSound_1 : decode cX7_isSound 1 = .ok (.iconst 0, 1) := by decide +kernel
theorem dX7_isSound_2 : decode cX7_isSound 2 = .ok (.putfield 72, 3) := by decide +kernel
theorem dX7_isSound_5 : decode cX7_isSound 5 = .ok (.iconst 1, 1) := by decide +kernel
theorem dX7_isSound_6 : decode cX7_isSound 6 = .ok (.ireturn, 1) := by decide +kernel
end
section
theorem dL_track_0 : decode cL_track 0 = .ok (.aload_n 1, 1) := by decide +kernel
theorem dL_track_1 : decode cL_track 1 = .ok (.iconst 0, 1) := by decide +kernel
theorem dL_track_2 : decode cL_track 2 = .ok (.aload_n 0, 1) := by decide +kernel
theorem dL_track_3 : decode cL_track 3 = .ok (.invokevirtual 7, 3) := by decide +kernel
theorem dL_track_6 : decode cL_track 6 = .ok (.i2l, 1) := by decide +kernel
theorem dL_track_7 : decode cL_track 7 = .ok (.lastore, 1) := by decide +kernel
theorem dL_track_8 : decode cL_track 8 = .ok (.goto 6, 3) := by decide +kernel
theorem dL_track_11 : decode cL_track 11 = .ok (.astore_n 2, 1) := by decide +kernel
theorem dL_track_12 : decode cL_track 12 = .ok (.iconst 1, 1) := by decide +kernel
theorem dL_track_13 : decode cL_track 13 = .ok (.ireturn, 1) := by decide +kernel
theorem dL_track_14 : decode cL_track 14 = .ok (.iconst 0, 1) := by decide +kernel
theorem dL_track_15 : decode cL_track 15 = .ok (.ireturn, 1) := by decide +kernel
theorem dL_stretch_0 : decode cL_stretch 0 = .ok (.aload 4, 2) := by decide +kernel
theorem dL_stretch_2 : decode cL_stretch 2 = .ok (.iconst 0, 1) := by decide +kernel
theorem dL_stretch_3 : decode cL_stretch 3 = .ok (.aload_n 0, 1) := by decide +kernel
theorem dL_stretch_4 : decode cL_stretch 4 = .ok (.iload_n 1, 1) := by decide +kernel
theorem dL_stretch_5 : decode cL_stretch 5 = .ok (.iload_n 2, 1) := by decide +kernel
theorem dL_stretch_6 : decode cL_stretch 6 = .ok (.iload_n 3, 1) := by decide +kernel
theorem dL_stretch_7 : decode cL_stretch 7 = .ok (.invokevirtual 15, 3) := by decide +kernel
theorem dL_stretch_10 : decode cL_stretch 10 = .ok (.i2l, 1) := by decide +kernel
theorem dL_stretch_11 : decode cL_stretch 11 = .ok (.lastore, 1) := by decide +kernel
theorem dL_stretch_12 : decode cL_stretch 12 = .ok (.goto 19, 3) := by decide +kernel
theorem dL_stretch_15 : decode cL_stretch 15 = .ok (.astore 5, 2) := by decide +kernel
theorem dL_stretch_17 : decode cL_stretch 17 = .ok (.iconst 1, 1) := by decide +kernel
theorem dL_stretch_18 : decode cL_stretch 18 = .ok (.ireturn, 1) := by decide +kernel
theorem dL_stretch_19 : decode cL_stretch 19 = .ok (.astore 5, 2) := by decide +kernel
theorem dL_stretch_21 : decode cL_stretch 21 = .ok (.iconst 2, 1) := by decide +kernel
theorem dL_stretch_22 : decode cL_stretch 22 = .ok (.ireturn, 1) := by decide +kernel
theorem dL_stretch_23 : decode cL_stretch 23 = .ok (.astore 5, 2) := by decide +kernel
theorem dL_stretch_25 : decode cL_stretch 25 = .ok (.iconst 3, 1) := by decide +kernel
theorem dL_stretch_26 : decode cL_stretch 26 = .ok (.ireturn, 1) := by decide +kernel
theorem dL_stretch_27 : decode cL_stretch 27 = .ok (.astore 5, 2) := by decide +kernel
theorem dL_stretch_29 : decode cL_stretch 29 = .ok (.iconst 4, 1) := by decide +kernel
theorem dL_stretch_30 : decode cL_stretch 30 = .ok (.ireturn, 1) := by decide +kernel
theorem dL_stretch_31 : decode cL_stretch 31 = .ok (.iconst 0, 1) := by decide +kernel
theorem dL_stretch_32 : decode cL_stretch 32 = .ok (.ireturn, 1) := by decide +kernel
theorem dL_car_0 : decode cL_car 0 = .ok (.aload 4, 2) := by decide +kernel
theorem dL_car_2 : decode cL_car 2 = .ok (.iconst 0, 1) := by decide +kernel
theorem dL_car_3 : decode cL_car 3 = .ok (.aload_n 0, 1) := by decide +kernel
theorem dL_car_4 : decode cL_car 4 = .ok (.iload_n 1, 1) := by decide +kernel
theorem dL_car_5 : decode cL_car 5 = .ok (.iload_n 2, 1) := by decide +kernel
theorem dL_car_6 : decode cL_car 6 = .ok (.iload_n 3, 1) := by decide +kernel
theorem dL_car_7 : decode cL_car 7 = .ok (.invokevirtual 25, 3) := by decide +kernel
theorem dL_car_10 : decode cL_car 10 = .ok (.i2l, 1) := by decide +kernel
theorem dL_car_11 : decode cL_car 11 = .ok (.lastore, 1) := by decide +kernel
theorem dL_car_12 : decode cL_car 12 = .ok (.goto 11, 3) := by decide +kernel
theorem dL_car_15 : decode cL_car 15 = .ok (.astore 5, 2) := by decide +kernel
theorem dL_car_17 : decode cL_car 17 = .ok (.iconst 1, 1) := by decide +kernel
theorem dL_car_18 : decode cL_car 18 = .ok (.ireturn, 1) := by decide +kernel
theorem dL_car_19 : decode cL_car 19 = .ok (.astore 5, 2) := by decide +kernel
theorem dL_car_21 : decode cL_car 21 = .ok (.iconst 2, 1) := by decide +kernel
theorem dL_car_22 : decode cL_car 22 = .ok (.ireturn, 1) := by decide +kernel
theorem dL_car_23 : decode cL_car 23 = .ok (.iconst 0, 1) := by decide +kernel
theorem dL_car_24 : decode cL_car 24 = .ok (.ireturn, 1) := by decide +kernel
theorem dL_lengthOf_0 : decode cL_lengthOf 0 = .ok (.aload_n 2, 1) := by decide +kernel
theorem dL_lengthOf_1 : decode cL_lengthOf 1 = .ok (.iconst 0, 1) := by decide +kernel
theorem dL_lengthOf_2 : decode cL_lengthOf 2 = .ok (.aload_n 0, 1) := by decide +kernel
theorem dL_lengthOf_3 : decode cL_lengthOf 3 = .ok (.iload_n 1, 1) := by decide +kernel
theorem dL_lengthOf_4 : decode cL_lengthOf 4 = .ok (.invokevirtual 28, 3) := by decide +kernel
theorem dL_lengthOf_7 : decode cL_lengthOf 7 = .ok (.i2l, 1) := by decide +kernel
theorem dL_lengthOf_8 : decode cL_lengthOf 8 = .ok (.lastore, 1) := by decide +kernel
theorem dL_lengthOf_9 : decode cL_lengthOf 9 = .ok (.goto 6, 3) := by decide +kernel
theorem dL_lengthOf_12 : decode cL_lengthOf 12 = .ok (.astore_n 3, 1) := by decide +kernel
theorem dL_lengthOf_13 : decode cL_lengthOf 13 = .ok (.iconst 1, 1) := by decide +kernel
theorem dL_lengthOf_14 : decode cL_lengthOf 14 = .ok (.ireturn, 1) := by decide +kernel
theorem dL_lengthOf_15 : decode cL_lengthOf 15 = .ok (.iconst 0, 1) := by decide +kernel
theorem dL_lengthOf_16 : decode cL_lengthOf 16 = .ok (.ireturn, 1) := by decide +kernel
theorem dL_limitAt_0 : decode cL_limitAt 0 = .ok (.aload_n 3, 1) := by decide +kernel
theorem dL_limitAt_1 : decode cL_limitAt 1 = .ok (.iconst 0, 1) := by decide +kernel
theorem dL_limitAt_2 : decode cL_limitAt 2 = .ok (.aload_n 0, 1) := by decide +kernel
theorem dL_limitAt_3 : decode cL_limitAt 3 = .ok (.iload_n 1, 1) := by decide +kernel
theorem dL_limitAt_4 : decode cL_limitAt 4 = .ok (.iload_n 2, 1) := by decide +kernel
theorem dL_limitAt_5 : decode cL_limitAt 5 = .ok (.invokevirtual 32, 3) := by decide +kernel
theorem dL_limitAt_8 : decode cL_limitAt 8 = .ok (.i2l, 1) := by decide +kernel
theorem dL_limitAt_9 : decode cL_limitAt 9 = .ok (.lastore, 1) := by decide +kernel
theorem dL_limitAt_10 : decode cL_limitAt 10 = .ok (.goto 11, 3) := by decide +kernel
theorem dL_limitAt_13 : decode cL_limitAt 13 = .ok (.astore 4, 2) := by decide +kernel
theorem dL_limitAt_15 : decode cL_limitAt 15 = .ok (.iconst 1, 1) := by decide +kernel
theorem dL_limitAt_16 : decode cL_limitAt 16 = .ok (.ireturn, 1) := by decide +kernel
theorem dL_limitAt_17 : decode cL_limitAt 17 = .ok (.astore 4, 2) := by decide +kernel
theorem dL_limitAt_19 : decode cL_limitAt 19 = .ok (.iconst 2, 1) := by decide +kernel
theorem dL_limitAt_20 : decode cL_limitAt 20 = .ok (.ireturn, 1) := by decide +kernel
theorem dL_limitAt_21 : decode cL_limitAt 21 = .ok (.iconst 0, 1) := by decide +kernel
theorem dL_limitAt_22 : decode cL_limitAt 22 = .ok (.ireturn, 1) := by decide +kernel
theorem dL_type_0 : decode cL_type 0 = .ok (.aload_n 3, 1) := by decide +kernel
theorem dL_type_1 : decode cL_type 1 = .ok (.iconst 0, 1) := by decide +kernel
theorem dL_type_2 : decode cL_type 2 = .ok (.aload_n 0, 1) := by decide +kernel
theorem dL_type_3 : decode cL_type 3 = .ok (.iload_n 1, 1) := by decide +kernel
theorem dL_type_4 : decode cL_type 4 = .ok (.iload_n 2, 1) := by decide +kernel
theorem dL_type_5 : decode cL_type 5 = .ok (.invokevirtual 38, 3) := by decide +kernel
theorem dL_type_8 : decode cL_type 8 = .ok (.i2l, 1) := by decide +kernel
theorem dL_type_9 : decode cL_type 9 = .ok (.lastore, 1) := by decide +kernel
theorem dL_type_10 : decode cL_type 10 = .ok (.goto 11, 3) := by decide +kernel
theorem dL_type_13 : decode cL_type 13 = .ok (.astore 4, 2) := by decide +kernel
theorem dL_type_15 : decode cL_type 15 = .ok (.iconst 1, 1) := by decide +kernel
theorem dL_type_16 : decode cL_type 16 = .ok (.ireturn, 1) := by decide +kernel
theorem dL_type_17 : decode cL_type 17 = .ok (.astore 4, 2) := by decide +kernel
theorem dL_type_19 : decode cL_type 19 = .ok (.iconst 2, 1) := by decide +kernel
theorem dL_type_20 : decode cL_type 20 = .ok (.ireturn, 1) := by decide +kernel
theorem dL_type_21 : decode cL_type 21 = .ok (.iconst 0, 1) := by decide +kernel
theorem dL_type_22 : decode cL_type 22 = .ok (.ireturn, 1) := by decide +kernel
theorem dL_drive_0 : decode cL_drive 0 = .ok (.aload 5, 2) := by decide +kernel
theorem dL_drive_2 : decode cL_drive 2 = .ok (.iconst 0, 1) := by decide +kernel
theorem dL_drive_3 : decode cL_drive 3 = .ok (.aload_n 0, 1) := by decide +kernel
theorem dL_drive_4 : decode cL_drive 4 = .ok (.iload_n 1, 1) := by decide +kernel
theorem dL_drive_5 : decode cL_drive 5 = .ok (.iload_n 2, 1) := by decide +kernel
theorem dL_drive_6 : decode cL_drive 6 = .ok (.iload_n 3, 1) := by decide +kernel
theorem dL_drive_7 : decode cL_drive 7 = .ok (.iload 4, 2) := by decide +kernel
theorem dL_drive_9 : decode cL_drive 9 = .ok (.invokevirtual 42, 3) := by decide +kernel
theorem dL_drive_12 : decode cL_drive 12 = .ok (.i2l, 1) := by decide +kernel
theorem dL_drive_13 : decode cL_drive 13 = .ok (.lastore, 1) := by decide +kernel
theorem dL_drive_14 : decode cL_drive 14 = .ok (.goto 19, 3) := by decide +kernel
theorem dL_drive_17 : decode cL_drive 17 = .ok (.astore 6, 2) := by decide +kernel
theorem dL_drive_19 : decode cL_drive 19 = .ok (.iconst 1, 1) := by decide +kernel
theorem dL_drive_20 : decode cL_drive 20 = .ok (.ireturn, 1) := by decide +kernel
theorem dL_drive_21 : decode cL_drive 21 = .ok (.astore 6, 2) := by decide +kernel
theorem dL_drive_23 : decode cL_drive 23 = .ok (.iconst 2, 1) := by decide +kernel
theorem dL_drive_24 : decode cL_drive 24 = .ok (.ireturn, 1) := by decide +kernel
theorem dL_drive_25 : decode cL_drive 25 = .ok (.astore 6, 2) := by decide +kernel
theorem dL_drive_27 : decode cL_drive 27 = .ok (.iconst 3, 1) := by decide +kernel
theorem dL_drive_28 : decode cL_drive 28 = .ok (.ireturn, 1) := by decide +kernel
theorem dL_drive_29 : decode cL_drive 29 = .ok (.astore 6, 2) := by decide +kernel
theorem dL_drive_31 : decode cL_drive 31 = .ok (.iconst 4, 1) := by decide +kernel
theorem dL_drive_32 : decode cL_drive 32 = .ok (.ireturn, 1) := by decide +kernel
theorem dL_drive_33 : decode cL_drive 33 = .ok (.iconst 0, 1) := by decide +kernel
theorem dL_drive_34 : decode cL_drive 34 = .ok (.ireturn, 1) := by decide +kernel
theorem dL_tryOut_0 : decode cL_tryOut 0 = .ok (.aload_n 3, 1) := by decide +kernel
theorem dL_tryOut_1 : decode cL_tryOut 1 = .ok (.iconst 0, 1) := by decide +kernel
theorem dL_tryOut_2 : decode cL_tryOut 2 = .ok (.aload_n 0, 1) := by decide +kernel
theorem dL_tryOut_3 : decode cL_tryOut 3 = .ok (.iload_n 1, 1) := by decide +kernel
theorem dL_tryOut_4 : decode cL_tryOut 4 = .ok (.iload_n 2, 1) := by decide +kernel
theorem dL_tryOut_5 : decode cL_tryOut 5 = .ok (.invokevirtual 46, 3) := by decide +kernel
theorem dL_tryOut_8 : decode cL_tryOut 8 = .ok (.i2l, 1) := by decide +kernel
theorem dL_tryOut_9 : decode cL_tryOut 9 = .ok (.lastore, 1) := by decide +kernel
theorem dL_tryOut_10 : decode cL_tryOut 10 = .ok (.goto 11, 3) := by decide +kernel
theorem dL_tryOut_13 : decode cL_tryOut 13 = .ok (.astore 4, 2) := by decide +kernel
theorem dL_tryOut_15 : decode cL_tryOut 15 = .ok (.iconst 1, 1) := by decide +kernel
theorem dL_tryOut_16 : decode cL_tryOut 16 = .ok (.ireturn, 1) := by decide +kernel
theorem dL_tryOut_17 : decode cL_tryOut 17 = .ok (.astore 4, 2) := by decide +kernel
theorem dL_tryOut_19 : decode cL_tryOut 19 = .ok (.iconst 2, 1) := by decide +kernel
theorem dL_tryOut_20 : decode cL_tryOut 20 = .ok (.ireturn, 1) := by decide +kernel
theorem dL_tryOut_21 : decode cL_tryOut 21 = .ok (.iconst 0, 1) := by decide +kernel
theorem dL_tryOut_22 : decode cL_tryOut 22 = .ok (.ireturn, 1) := by decide +kernel
theorem dL_time_0 : decode cL_time 0 = .ok (.aload_n 3, 1) := by decide +kernel
theorem dL_time_1 : decode cL_time 1 = .ok (.iconst 0, 1) := by decide +kernel
theorem dL_time_2 : decode cL_time 2 = .ok (.aload_n 0, 1) := by decide +kernel
theorem dL_time_3 : decode cL_time 3 = .ok (.iload_n 1, 1) := by decide +kernel
theorem dL_time_4 : decode cL_time 4 = .ok (.iload_n 2, 1) := by decide +kernel
theorem dL_time_5 : decode cL_time 5 = .ok (.invokevirtual 49, 3) := by decide +kernel
theorem dL_time_8 : decode cL_time 8 = .ok (.i2l, 1) := by decide +kernel
theorem dL_time_9 : decode cL_time 9 = .ok (.lastore, 1) := by decide +kernel
theorem dL_time_10 : decode cL_time 10 = .ok (.goto 7, 3) := by decide +kernel
theorem dL_time_13 : decode cL_time 13 = .ok (.astore 4, 2) := by decide +kernel
theorem dL_time_15 : decode cL_time 15 = .ok (.iconst 1, 1) := by decide +kernel
theorem dL_time_16 : decode cL_time 16 = .ok (.ireturn, 1) := by decide +kernel
theorem dL_time_17 : decode cL_time 17 = .ok (.iconst 0, 1) := by decide +kernel
theorem dL_time_18 : decode cL_time 18 = .ok (.ireturn, 1) := by decide +kernel
theorem dL_ticks_0 : decode cL_ticks 0 = .ok (.aload_n 2, 1) := by decide +kernel
theorem dL_ticks_1 : decode cL_ticks 1 = .ok (.iconst 0, 1) := by decide +kernel
theorem dL_ticks_2 : decode cL_ticks 2 = .ok (.aload_n 0, 1) := by decide +kernel
theorem dL_ticks_3 : decode cL_ticks 3 = .ok (.iload_n 1, 1) := by decide +kernel
theorem dL_ticks_4 : decode cL_ticks 4 = .ok (.invokevirtual 53, 3) := by decide +kernel
theorem dL_ticks_7 : decode cL_ticks 7 = .ok (.i2l, 1) := by decide +kernel
theorem dL_ticks_8 : decode cL_ticks 8 = .ok (.lastore, 1) := by decide +kernel
theorem dL_ticks_9 : decode cL_ticks 9 = .ok (.goto 6, 3) := by decide +kernel
theorem dL_ticks_12 : decode cL_ticks 12 = .ok (.astore_n 3, 1) := by decide +kernel
theorem dL_ticks_13 : decode cL_ticks 13 = .ok (.iconst 1, 1) := by decide +kernel
theorem dL_ticks_14 : decode cL_ticks 14 = .ok (.ireturn, 1) := by decide +kernel
theorem dL_ticks_15 : decode cL_ticks 15 = .ok (.iconst 0, 1) := by decide +kernel
theorem dL_ticks_16 : decode cL_ticks 16 = .ok (.ireturn, 1) := by decide +kernel
theorem dL_inputAt_0 : decode cL_inputAt 0 = .ok (.aload_n 3, 1) := by decide +kernel
theorem dL_inputAt_1 : decode cL_inputAt 1 = .ok (.iconst 0, 1) := by decide +kernel
theorem dL_inputAt_2 : decode cL_inputAt 2 = .ok (.aload_n 0, 1) := by decide +kernel
theorem dL_inputAt_3 : decode cL_inputAt 3 = .ok (.iload_n 1, 1) := by decide +kernel
theorem dL_inputAt_4 : decode cL_inputAt 4 = .ok (.iload_n 2, 1) := by decide +kernel
theorem dL_inputAt_5 : decode cL_inputAt 5 = .ok (.invokevirtual 56, 3) := by decide +kernel
theorem dL_inputAt_8 : decode cL_inputAt 8 = .ok (.i2l, 1) := by decide +kernel
theorem dL_inputAt_9 : decode cL_inputAt 9 = .ok (.lastore, 1) := by decide +kernel
theorem dL_inputAt_10 : decode cL_inputAt 10 = .ok (.goto 11, 3) := by decide +kernel
theorem dL_inputAt_13 : decode cL_inputAt 13 = .ok (.astore 4, 2) := by decide +kernel
theorem dL_inputAt_15 : decode cL_inputAt 15 = .ok (.iconst 1, 1) := by decide +kernel
theorem dL_inputAt_16 : decode cL_inputAt 16 = .ok (.ireturn, 1) := by decide +kernel
theorem dL_inputAt_17 : decode cL_inputAt 17 = .ok (.astore 4, 2) := by decide +kernel
theorem dL_inputAt_19 : decode cL_inputAt 19 = .ok (.iconst 2, 1) := by decide +kernel
theorem dL_inputAt_20 : decode cL_inputAt 20 = .ok (.ireturn, 1) := by decide +kernel
theorem dL_inputAt_21 : decode cL_inputAt 21 = .ok (.iconst 0, 1) := by decide +kernel
theorem dL_inputAt_22 : decode cL_inputAt 22 = .ok (.ireturn, 1) := by decide +kernel
theorem dL_replay_0 : decode cL_replay 0 = .ok (.aload 4, 2) := by decide +kernel
theorem dL_replay_2 : decode cL_replay 2 = .ok (.iconst 0, 1) := by decide +kernel
theorem dL_replay_3 : decode cL_replay 3 = .ok (.aload_n 0, 1) := by decide +kernel
theorem dL_replay_4 : decode cL_replay 4 = .ok (.iload_n 1, 1) := by decide +kernel
theorem dL_replay_5 : decode cL_replay 5 = .ok (.iload_n 2, 1) := by decide +kernel
theorem dL_replay_6 : decode cL_replay 6 = .ok (.iload_n 3, 1) := by decide +kernel
theorem dL_replay_7 : decode cL_replay 7 = .ok (.invokevirtual 60, 3) := by decide +kernel
theorem dL_replay_10 : decode cL_replay 10 = .ok (.i2l, 1) := by decide +kernel
theorem dL_replay_11 : decode cL_replay 11 = .ok (.lastore, 1) := by decide +kernel
theorem dL_replay_12 : decode cL_replay 12 = .ok (.goto 11, 3) := by decide +kernel
theorem dL_replay_15 : decode cL_replay 15 = .ok (.astore 5, 2) := by decide +kernel
theorem dL_replay_17 : decode cL_replay 17 = .ok (.iconst 1, 1) := by decide +kernel
theorem dL_replay_18 : decode cL_replay 18 = .ok (.ireturn, 1) := by decide +kernel
theorem dL_replay_19 : decode cL_replay 19 = .ok (.astore 5, 2) := by decide +kernel
theorem dL_replay_21 : decode cL_replay 21 = .ok (.iconst 2, 1) := by decide +kernel
theorem dL_replay_22 : decode cL_replay 22 = .ok (.ireturn, 1) := by decide +kernel
theorem dL_replay_23 : decode cL_replay 23 = .ok (.iconst 0, 1) := by decide +kernel
theorem dL_replay_24 : decode cL_replay 24 = .ok (.ireturn, 1) := by decide +kernel
theorem dL_of_0 : decode cL_of 0 = .ok (.aload_n 3, 1) := by decide +kernel
theorem dL_of_1 : decode cL_of 1 = .ok (.iconst 0, 1) := by decide +kernel
theorem dL_of_2 : decode cL_of 2 = .ok (.aload_n 0, 1) := by decide +kernel
theorem dL_of_3 : decode cL_of 3 = .ok (.iload_n 1, 1) := by decide +kernel
theorem dL_of_4 : decode cL_of 4 = .ok (.iload_n 2, 1) := by decide +kernel
theorem dL_of_5 : decode cL_of 5 = .ok (.invokevirtual 64, 3) := by decide +kernel
theorem dL_of_8 : decode cL_of 8 = .ok (.i2l, 1) := by decide +kernel
theorem dL_of_9 : decode cL_of 9 = .ok (.lastore, 1) := by decide +kernel
theorem dL_of_10 : decode cL_of 10 = .ok (.goto 11, 3) := by decide +kernel
theorem dL_of_13 : decode cL_of 13 = .ok (.astore 4, 2) := by decide +kernel
theorem dL_of_15 : decode cL_of 15 = .ok (.iconst 1, 1) := by decide +kernel
theorem dL_of_16 : decode cL_of 16 = .ok (.ireturn, 1) := by decide +kernel
theorem dL_of_17 : decode cL_of 17 = .ok (.astore 4, 2) := by decide +kernel
theorem dL_of_19 : decode cL_of 19 = .ok (.iconst 2, 1) := by decide +kernel
theorem dL_of_20 : decode cL_of 20 = .ok (.ireturn, 1) := by decide +kernel
theorem dL_of_21 : decode cL_of 21 = .ok (.iconst 0, 1) := by decide +kernel
theorem dL_of_22 : decode cL_of 22 = .ok (.ireturn, 1) := by decide +kernel
theorem dL_beats_0 : decode cL_beats 0 = .ok (.aload_n 2, 1) := by decide +kernel
theorem dL_beats_1 : decode cL_beats 1 = .ok (.iconst 0, 1) := by decide +kernel
theorem dL_beats_2 : decode cL_beats 2 = .ok (.aload_n 0, 1) := by decide +kernel
theorem dL_beats_3 : decode cL_beats 3 = .ok (.iload_n 1, 1) := by decide +kernel
theorem dL_beats_4 : decode cL_beats 4 = .ok (.invokevirtual 68, 3) := by decide +kernel
theorem dL_beats_7 : decode cL_beats 7 = .ok (.ifCond .eq 7, 3) := by decide +kernel
theorem dL_beats_10 : decode cL_beats 10 = .ok (.lconst 1, 1) := by decide +kernel
theorem dL_beats_11 : decode cL_beats 11 = .ok (.goto 4, 3) := by decide +kernel
theorem dL_beats_14 : decode cL_beats 14 = .ok (.lconst 0, 1) := by decide +kernel
theorem dL_beats_15 : decode cL_beats 15 = .ok (.lastore, 1) := by decide +kernel
theorem dL_beats_16 : decode cL_beats 16 = .ok (.goto 9, 3) := by decide +kernel
theorem dL_beats_19 : decode cL_beats 19 = .ok (.astore_n 3, 1) := by decide +kernel
theorem dL_beats_20 : decode cL_beats 20 = .ok (.iconst 1, 1) := by decide +kernel
theorem dL_beats_21 : decode cL_beats 21 = .ok (.ireturn, 1) := by decide +kernel
theorem dL_beats_22 : decode cL_beats 22 = .ok (.astore_n 3, 1) := by decide +kernel
theorem dL_beats_23 : decode cL_beats 23 = .ok (.iconst 2, 1) := by decide +kernel
theorem dL_beats_24 : decode cL_beats 24 = .ok (.ireturn, 1) := by decide +kernel
theorem dL_beats_25 : decode cL_beats 25 = .ok (.iconst 0, 1) := by decide +kernel
theorem dL_beats_26 : decode cL_beats 26 = .ok (.ireturn, 1) := by decide +kernel
theorem dL_least_0 : decode cL_least 0 = .ok (.aload_n 2, 1) := by decide +kernel
theorem dL_least_1 : decode cL_least 1 = .ok (.iconst 0, 1) := by decide +kernel
theorem dL_least_2 : decode cL_least 2 = .ok (.aload_n 0, 1) := by decide +kernel
theorem dL_least_3 : decode cL_least 3 = .ok (.iload_n 1, 1) := by decide +kernel
theorem dL_least_4 : decode cL_least 4 = .ok (.invokevirtual 72, 3) := by decide +kernel
theorem dL_least_7 : decode cL_least 7 = .ok (.i2l, 1) := by decide +kernel
theorem dL_least_8 : decode cL_least 8 = .ok (.lastore, 1) := by decide +kernel
theorem dL_least_9 : decode cL_least 9 = .ok (.goto 9, 3) := by decide +kernel
theorem dL_least_12 : decode cL_least 12 = .ok (.astore_n 3, 1) := by decide +kernel
theorem dL_least_13 : decode cL_least 13 = .ok (.iconst 1, 1) := by decide +kernel
theorem dL_least_14 : decode cL_least 14 = .ok (.ireturn, 1) := by decide +kernel
theorem dL_least_15 : decode cL_least 15 = .ok (.astore_n 3, 1) := by decide +kernel
theorem dL_least_16 : decode cL_least 16 = .ok (.iconst 2, 1) := by decide +kernel
theorem dL_least_17 : decode cL_least 17 = .ok (.ireturn, 1) := by decide +kernel
theorem dL_least_18 : decode cL_least 18 = .ok (.iconst 0, 1) := by decide +kernel
theorem dL_least_19 : decode cL_least 19 = .ok (.ireturn, 1) := by decide +kernel
theorem dL_base_0 : decode cL_base 0 = .ok (.aload_n 2, 1) := by decide +kernel
theorem dL_base_1 : decode cL_base 1 = .ok (.iconst 0, 1) := by decide +kernel
theorem dL_base_2 : decode cL_base 2 = .ok (.aload_n 0, 1) := by decide +kernel
theorem dL_base_3 : decode cL_base 3 = .ok (.iload_n 1, 1) := by decide +kernel
theorem dL_base_4 : decode cL_base 4 = .ok (.invokevirtual 75, 3) := by decide +kernel
theorem dL_base_7 : decode cL_base 7 = .ok (.i2l, 1) := by decide +kernel
theorem dL_base_8 : decode cL_base 8 = .ok (.lastore, 1) := by decide +kernel
theorem dL_base_9 : decode cL_base 9 = .ok (.goto 9, 3) := by decide +kernel
theorem dL_base_12 : decode cL_base 12 = .ok (.astore_n 3, 1) := by decide +kernel
theorem dL_base_13 : decode cL_base 13 = .ok (.iconst 1, 1) := by decide +kernel
theorem dL_base_14 : decode cL_base 14 = .ok (.ireturn, 1) := by decide +kernel
theorem dL_base_15 : decode cL_base 15 = .ok (.astore_n 3, 1) := by decide +kernel
theorem dL_base_16 : decode cL_base 16 = .ok (.iconst 2, 1) := by decide +kernel
theorem dL_base_17 : decode cL_base 17 = .ok (.ireturn, 1) := by decide +kernel
theorem dL_base_18 : decode cL_base 18 = .ok (.iconst 0, 1) := by decide +kernel
theorem dL_base_19 : decode cL_base 19 = .ok (.ireturn, 1) := by decide +kernel
theorem dL_depth_0 : decode cL_depth 0 = .ok (.aload_n 2, 1) := by decide +kernel
theorem dL_depth_1 : decode cL_depth 1 = .ok (.iconst 0, 1) := by decide +kernel
theorem dL_depth_2 : decode cL_depth 2 = .ok (.aload_n 0, 1) := by decide +kernel
theorem dL_depth_3 : decode cL_depth 3 = .ok (.iload_n 1, 1) := by decide +kernel
theorem dL_depth_4 : decode cL_depth 4 = .ok (.invokevirtual 78, 3) := by decide +kernel
theorem dL_depth_7 : decode cL_depth 7 = .ok (.i2l, 1) := by decide +kernel
theorem dL_depth_8 : decode cL_depth 8 = .ok (.lastore, 1) := by decide +kernel
theorem dL_depth_9 : decode cL_depth 9 = .ok (.goto 6, 3) := by decide +kernel
theorem dL_depth_12 : decode cL_depth 12 = .ok (.astore_n 3, 1) := by decide +kernel
theorem dL_depth_13 : decode cL_depth 13 = .ok (.iconst 1, 1) := by decide +kernel
theorem dL_depth_14 : decode cL_depth 14 = .ok (.ireturn, 1) := by decide +kernel
theorem dL_depth_15 : decode cL_depth 15 = .ok (.iconst 0, 1) := by decide +kernel
theorem dL_depth_16 : decode cL_depth 16 = .ok (.ireturn, 1) := by decide +kernel
theorem dL_parts_0 : decode cL_parts 0 = .ok (.aload_n 2, 1) := by decide +kernel
theorem dL_parts_1 : decode cL_parts 1 = .ok (.iconst 0, 1) := by decide +kernel
theorem dL_parts_2 : decode cL_parts 2 = .ok (.aload_n 0, 1) := by decide +kernel
theorem dL_parts_3 : decode cL_parts 3 = .ok (.iload_n 1, 1) := by decide +kernel
theorem dL_parts_4 : decode cL_parts 4 = .ok (.invokevirtual 81, 3) := by decide +kernel
theorem dL_parts_7 : decode cL_parts 7 = .ok (.i2l, 1) := by decide +kernel
theorem dL_parts_8 : decode cL_parts 8 = .ok (.lastore, 1) := by decide +kernel
theorem dL_parts_9 : decode cL_parts 9 = .ok (.goto 6, 3) := by decide +kernel
theorem dL_parts_12 : decode cL_parts 12 = .ok (.astore_n 3, 1) := by decide +kernel
theorem dL_parts_13 : decode cL_parts 13 = .ok (.iconst 1, 1) := by decide +kernel
theorem dL_parts_14 : decode cL_parts 14 = .ok (.ireturn, 1) := by decide +kernel
theorem dL_parts_15 : decode cL_parts 15 = .ok (.iconst 0, 1) := by decide +kernel
theorem dL_parts_16 : decode cL_parts 16 = .ok (.ireturn, 1) := by decide +kernel
theorem dL_resting_0 : decode cL_resting 0 = .ok (.aload_n 2, 1) := by decide +kernel
theorem dL_resting_1 : decode cL_resting 1 = .ok (.iconst 0, 1) := by decide +kernel
theorem dL_resting_2 : decode cL_resting 2 = .ok (.aload_n 0, 1) := by decide +kernel
theorem dL_resting_3 : decode cL_resting 3 = .ok (.iload_n 1, 1) := by decide +kernel
theorem dL_resting_4 : decode cL_resting 4 = .ok (.invokevirtual 84, 3) := by decide +kernel
theorem dL_resting_7 : decode cL_resting 7 = .ok (.i2l, 1) := by decide +kernel
theorem dL_resting_8 : decode cL_resting 8 = .ok (.lastore, 1) := by decide +kernel
theorem dL_resting_9 : decode cL_resting 9 = .ok (.goto 6, 3) := by decide +kernel
theorem dL_resting_12 : decode cL_resting 12 = .ok (.astore_n 3, 1) := by decide +kernel
theorem dL_resting_13 : decode cL_resting 13 = .ok (.iconst 1, 1) := by decide +kernel
theorem dL_resting_14 : decode cL_resting 14 = .ok (.ireturn, 1) := by decide +kernel
theorem dL_resting_15 : decode cL_resting 15 = .ok (.iconst 0, 1) := by decide +kernel
theorem dL_resting_16 : decode cL_resting 16 = .ok (.ireturn, 1) := by decide +kernel
theorem dL_strike_0 : decode cL_strike 0 = .ok (.aload_n 2, 1) := by decide +kernel
theorem dL_strike_1 : decode cL_strike 1 = .ok (.iconst 0, 1) := by decide +kernel
theorem dL_strike_2 : decode cL_strike 2 = .ok (.aload_n 0, 1) := by decide +kernel
theorem dL_strike_3 : decode cL_strike 3 = .ok (.iload_n 1, 1) := by decide +kernel
theorem dL_strike_4 : decode cL_strike 4 = .ok (.invokevirtual 87, 3) := by decide +kernel
theorem dL_strike_7 : decode cL_strike 7 = .ok (.i2l, 1) := by decide +kernel
theorem dL_strike_8 : decode cL_strike 8 = .ok (.lastore, 1) := by decide +kernel
theorem dL_strike_9 : decode cL_strike 9 = .ok (.goto 9, 3) := by decide +kernel
theorem dL_strike_12 : decode cL_strike 12 = .ok (.astore_n 3, 1) := by decide +kernel
theorem dL_strike_13 : decode cL_strike 13 = .ok (.iconst 1, 1) := by decide +kernel
theorem dL_strike_14 : decode cL_strike 14 = .ok (.ireturn, 1) := by decide +kernel
theorem dL_strike_15 : decode cL_strike 15 = .ok (.astore_n 3, 1) := by decide +kernel
theorem dL_strike_16 : decode cL_strike 16 = .ok (.iconst 2, 1) := by decide +kernel
theorem dL_strike_17 : decode cL_strike 17 = .ok (.ireturn, 1) := by decide +kernel
theorem dL_strike_18 : decode cL_strike 18 = .ok (.iconst 0, 1) := by decide +kernel
theorem dL_strike_19 : decode cL_strike 19 = .ok (.ireturn, 1) := by decide +kernel
theorem dL_giveBack_0 : decode cL_giveBack 0 = .ok (.aload_n 2, 1) := by decide +kernel
theorem dL_giveBack_1 : decode cL_giveBack 1 = .ok (.iconst 0, 1) := by decide +kernel
theorem dL_giveBack_2 : decode cL_giveBack 2 = .ok (.aload_n 0, 1) := by decide +kernel
theorem dL_giveBack_3 : decode cL_giveBack 3 = .ok (.iload_n 1, 1) := by decide +kernel
theorem dL_giveBack_4 : decode cL_giveBack 4 = .ok (.invokevirtual 90, 3) := by decide +kernel
theorem dL_giveBack_7 : decode cL_giveBack 7 = .ok (.i2l, 1) := by decide +kernel
theorem dL_giveBack_8 : decode cL_giveBack 8 = .ok (.lastore, 1) := by decide +kernel
theorem dL_giveBack_9 : decode cL_giveBack 9 = .ok (.goto 9, 3) := by decide +kernel
theorem dL_giveBack_12 : decode cL_giveBack 12 = .ok (.astore_n 3, 1) := by decide +kernel
theorem dL_giveBack_13 : decode cL_giveBack 13 = .ok (.iconst 1, 1) := by decide +kernel
theorem dL_giveBack_14 : decode cL_giveBack 14 = .ok (.ireturn, 1) := by decide +kernel
theorem dL_giveBack_15 : decode cL_giveBack 15 = .ok (.astore_n 3, 1) := by decide +kernel
theorem dL_giveBack_16 : decode cL_giveBack 16 = .ok (.iconst 2, 1) := by decide +kernel
theorem dL_giveBack_17 : decode cL_giveBack 17 = .ok (.ireturn, 1) := by decide +kernel
theorem dL_giveBack_18 : decode cL_giveBack 18 = .ok (.iconst 0, 1) := by decide +kernel
theorem dL_giveBack_19 : decode cL_giveBack 19 = .ok (.ireturn, 1) := by decide +kernel
theorem dL_stands_0 : decode cL_stands 0 = .ok (.aload_n 2, 1) := by decide +kernel
theorem dL_stands_1 : decode cL_stands 1 = .ok (.iconst 0, 1) := by decide +kernel
theorem dL_stands_2 : decode cL_stands 2 = .ok (.aload_n 0, 1) := by decide +kernel
theorem dL_stands_3 : decode cL_stands 3 = .ok (.iload_n 1, 1) := by decide +kernel
theorem dL_stands_4 : decode cL_stands 4 = .ok (.invokevirtual 93, 3) := by decide +kernel
theorem dL_stands_7 : decode cL_stands 7 = .ok (.ifCond .eq 7, 3) := by decide +kernel
theorem dL_stands_10 : decode cL_stands 10 = .ok (.lconst 1, 1) := by decide +kernel
theorem dL_stands_11 : decode cL_stands 11 = .ok (.goto 4, 3) := by decide +kernel
theorem dL_stands_14 : decode cL_stands 14 = .ok (.lconst 0, 1) := by decide +kernel
theorem dL_stands_15 : decode cL_stands 15 = .ok (.lastore, 1) := by decide +kernel
theorem dL_stands_16 : decode cL_stands 16 = .ok (.goto 6, 3) := by decide +kernel
theorem dL_stands_19 : decode cL_stands 19 = .ok (.astore_n 3, 1) := by decide +kernel
theorem dL_stands_20 : decode cL_stands 20 = .ok (.iconst 1, 1) := by decide +kernel
theorem dL_stands_21 : decode cL_stands 21 = .ok (.ireturn, 1) := by decide +kernel
theorem dL_stands_22 : decode cL_stands 22 = .ok (.iconst 0, 1) := by decide +kernel
theorem dL_stands_23 : decode cL_stands 23 = .ok (.ireturn, 1) := by decide +kernel
theorem dL_penalty_0 : decode cL_penalty 0 = .ok (.aload_n 3, 1) := by decide +kernel
theorem dL_penalty_1 : decode cL_penalty 1 = .ok (.iconst 0, 1) := by decide +kernel
theorem dL_penalty_2 : decode cL_penalty 2 = .ok (.aload_n 0, 1) := by decide +kernel
theorem dL_penalty_3 : decode cL_penalty 3 = .ok (.iload_n 1, 1) := by decide +kernel
theorem dL_penalty_4 : decode cL_penalty 4 = .ok (.iload_n 2, 1) := by decide +kernel
theorem dL_penalty_5 : decode cL_penalty 5 = .ok (.invokevirtual 96, 3) := by decide +kernel
theorem dL_penalty_8 : decode cL_penalty 8 = .ok (.i2l, 1) := by decide +kernel
theorem dL_penalty_9 : decode cL_penalty 9 = .ok (.lastore, 1) := by decide +kernel
theorem dL_penalty_10 : decode cL_penalty 10 = .ok (.goto 11, 3) := by decide +kernel
theorem dL_penalty_13 : decode cL_penalty 13 = .ok (.astore 4, 2) := by decide +kernel
theorem dL_penalty_15 : decode cL_penalty 15 = .ok (.iconst 1, 1) := by decide +kernel
theorem dL_penalty_16 : decode cL_penalty 16 = .ok (.ireturn, 1) := by decide +kernel
theorem dL_penalty_17 : decode cL_penalty 17 = .ok (.astore 4, 2) := by decide +kernel
theorem dL_penalty_19 : decode cL_penalty 19 = .ok (.iconst 2, 1) := by decide +kernel
theorem dL_penalty_20 : decode cL_penalty 20 = .ok (.ireturn, 1) := by decide +kernel
theorem dL_penalty_21 : decode cL_penalty 21 = .ok (.iconst 0, 1) := by decide +kernel
theorem dL_penalty_22 : decode cL_penalty 22 = .ok (.ireturn, 1) := by decide +kernel
theorem dL_round_0 : decode cL_round 0 = .ok (.aload_n 2, 1) := by decide +kernel
theorem dL_round_1 : decode cL_round 1 = .ok (.iconst 0, 1) := by decide +kernel
theorem dL_round_2 : decode cL_round 2 = .ok (.aload_n 0, 1) := by decide +kernel
theorem dL_round_3 : decode cL_round 3 = .ok (.iload_n 1, 1) := by decide +kernel
theorem dL_round_4 : decode cL_round 4 = .ok (.invokevirtual 99, 3) := by decide +kernel
theorem dL_round_7 : decode cL_round 7 = .ok (.i2l, 1) := by decide +kernel
theorem dL_round_8 : decode cL_round 8 = .ok (.lastore, 1) := by decide +kernel
theorem dL_round_9 : decode cL_round 9 = .ok (.goto 9, 3) := by decide +kernel
theorem dL_round_12 : decode cL_round 12 = .ok (.astore_n 3, 1) := by decide +kernel
theorem dL_round_13 : decode cL_round 13 = .ok (.iconst 1, 1) := by decide +kernel
theorem dL_round_14 : decode cL_round 14 = .ok (.ireturn, 1) := by decide +kernel
theorem dL_round_15 : decode cL_round 15 = .ok (.astore_n 3, 1) := by decide +kernel
theorem dL_round_16 : decode cL_round 16 = .ok (.iconst 2, 1) := by decide +kernel
theorem dL_round_17 : decode cL_round 17 = .ok (.ireturn, 1) := by decide +kernel
theorem dL_round_18 : decode cL_round 18 = .ok (.iconst 0, 1) := by decide +kernel
theorem dL_round_19 : decode cL_round 19 = .ok (.ireturn, 1) := by decide +kernel
theorem dL_shut_0 : decode cL_shut 0 = .ok (.aload_n 1, 1) := by decide +kernel
theorem dL_shut_1 : decode cL_shut 1 = .ok (.iconst 0, 1) := by decide +kernel
theorem dL_shut_2 : decode cL_shut 2 = .ok (.aload_n 0, 1) := by decide +kernel
theorem dL_shut_3 : decode cL_shut 3 = .ok (.invokevirtual 102, 3) := by decide +kernel
theorem dL_shut_6 : decode cL_shut 6 = .ok (.i2l, 1) := by decide +kernel
theorem dL_shut_7 : decode cL_shut 7 = .ok (.lastore, 1) := by decide +kernel
theorem dL_shut_8 : decode cL_shut 8 = .ok (.goto 6, 3) := by decide +kernel
theorem dL_shut_11 : decode cL_shut 11 = .ok (.astore_n 2, 1) := by decide +kernel
theorem dL_shut_12 : decode cL_shut 12 = .ok (.iconst 1, 1) := by decide +kernel
theorem dL_shut_13 : decode cL_shut 13 = .ok (.ireturn, 1) := by decide +kernel
theorem dL_shut_14 : decode cL_shut 14 = .ok (.iconst 0, 1) := by decide +kernel
theorem dL_shut_15 : decode cL_shut 15 = .ok (.ireturn, 1) := by decide +kernel
theorem dL_lapIn_0 : decode cL_lapIn 0 = .ok (.aload_n 3, 1) := by decide +kernel
theorem dL_lapIn_1 : decode cL_lapIn 1 = .ok (.iconst 0, 1) := by decide +kernel
theorem dL_lapIn_2 : decode cL_lapIn 2 = .ok (.aload_n 0, 1) := by decide +kernel
theorem dL_lapIn_3 : decode cL_lapIn 3 = .ok (.iload_n 1, 1) := by decide +kernel
theorem dL_lapIn_4 : decode cL_lapIn 4 = .ok (.iload_n 2, 1) := by decide +kernel
theorem dL_lapIn_5 : decode cL_lapIn 5 = .ok (.invokevirtual 105, 3) := by decide +kernel
theorem dL_lapIn_8 : decode cL_lapIn 8 = .ok (.i2l, 1) := by decide +kernel
theorem dL_lapIn_9 : decode cL_lapIn 9 = .ok (.lastore, 1) := by decide +kernel
theorem dL_lapIn_10 : decode cL_lapIn 10 = .ok (.goto 11, 3) := by decide +kernel
theorem dL_lapIn_13 : decode cL_lapIn 13 = .ok (.astore 4, 2) := by decide +kernel
theorem dL_lapIn_15 : decode cL_lapIn 15 = .ok (.iconst 1, 1) := by decide +kernel
theorem dL_lapIn_16 : decode cL_lapIn 16 = .ok (.ireturn, 1) := by decide +kernel
theorem dL_lapIn_17 : decode cL_lapIn 17 = .ok (.astore 4, 2) := by decide +kernel
theorem dL_lapIn_19 : decode cL_lapIn 19 = .ok (.iconst 2, 1) := by decide +kernel
theorem dL_lapIn_20 : decode cL_lapIn 20 = .ok (.ireturn, 1) := by decide +kernel
theorem dL_lapIn_21 : decode cL_lapIn 21 = .ok (.iconst 0, 1) := by decide +kernel
theorem dL_lapIn_22 : decode cL_lapIn 22 = .ok (.ireturn, 1) := by decide +kernel
theorem dL_placeIn_0 : decode cL_placeIn 0 = .ok (.aload_n 3, 1) := by decide +kernel
theorem dL_placeIn_1 : decode cL_placeIn 1 = .ok (.iconst 0, 1) := by decide +kernel
theorem dL_placeIn_2 : decode cL_placeIn 2 = .ok (.aload_n 0, 1) := by decide +kernel
theorem dL_placeIn_3 : decode cL_placeIn 3 = .ok (.iload_n 1, 1) := by decide +kernel
theorem dL_placeIn_4 : decode cL_placeIn 4 = .ok (.iload_n 2, 1) := by decide +kernel
theorem dL_placeIn_5 : decode cL_placeIn 5 = .ok (.invokevirtual 108, 3) := by decide +kernel
theorem dL_placeIn_8 : decode cL_placeIn 8 = .ok (.i2l, 1) := by decide +kernel
theorem dL_placeIn_9 : decode cL_placeIn 9 = .ok (.lastore, 1) := by decide +kernel
theorem dL_placeIn_10 : decode cL_placeIn 10 = .ok (.goto 11, 3) := by decide +kernel
theorem dL_placeIn_13 : decode cL_placeIn 13 = .ok (.astore 4, 2) := by decide +kernel
theorem dL_placeIn_15 : decode cL_placeIn 15 = .ok (.iconst 1, 1) := by decide +kernel
theorem dL_placeIn_16 : decode cL_placeIn 16 = .ok (.ireturn, 1) := by decide +kernel
theorem dL_placeIn_17 : decode cL_placeIn 17 = .ok (.astore 4, 2) := by decide +kernel
theorem dL_placeIn_19 : decode cL_placeIn 19 = .ok (.iconst 2, 1) := by decide +kernel
theorem dL_placeIn_20 : decode cL_placeIn 20 = .ok (.ireturn, 1) := by decide +kernel
theorem dL_placeIn_21 : decode cL_placeIn 21 = .ok (.iconst 0, 1) := by decide +kernel
theorem dL_placeIn_22 : decode cL_placeIn 22 = .ok (.ireturn, 1) := by decide +kernel
theorem dL_drop_0 : decode cL_drop 0 = .ok (.aload_n 2, 1) := by decide +kernel
theorem dL_drop_1 : decode cL_drop 1 = .ok (.iconst 0, 1) := by decide +kernel
theorem dL_drop_2 : decode cL_drop 2 = .ok (.aload_n 0, 1) := by decide +kernel
theorem dL_drop_3 : decode cL_drop 3 = .ok (.iload_n 1, 1) := by decide +kernel
theorem dL_drop_4 : decode cL_drop 4 = .ok (.invokevirtual 111, 3) := by decide +kernel
theorem dL_drop_7 : decode cL_drop 7 = .ok (.i2l, 1) := by decide +kernel
theorem dL_drop_8 : decode cL_drop 8 = .ok (.lastore, 1) := by decide +kernel
theorem dL_drop_9 : decode cL_drop 9 = .ok (.goto 6, 3) := by decide +kernel
theorem dL_drop_12 : decode cL_drop 12 = .ok (.astore_n 3, 1) := by decide +kernel
theorem dL_drop_13 : decode cL_drop 13 = .ok (.iconst 1, 1) := by decide +kernel
theorem dL_drop_14 : decode cL_drop 14 = .ok (.ireturn, 1) := by decide +kernel
theorem dL_drop_15 : decode cL_drop 15 = .ok (.iconst 0, 1) := by decide +kernel
theorem dL_drop_16 : decode cL_drop 16 = .ok (.ireturn, 1) := by decide +kernel
theorem dL_points_0 : decode cL_points 0 = .ok (.aload_n 2, 1) := by decide +kernel
theorem dL_points_1 : decode cL_points 1 = .ok (.iconst 0, 1) := by decide +kernel
theorem dL_points_2 : decode cL_points 2 = .ok (.aload_n 0, 1) := by decide +kernel
theorem dL_points_3 : decode cL_points 3 = .ok (.iload_n 1, 1) := by decide +kernel
theorem dL_points_4 : decode cL_points 4 = .ok (.invokevirtual 114, 3) := by decide +kernel
theorem dL_points_7 : decode cL_points 7 = .ok (.i2l, 1) := by decide +kernel
theorem dL_points_8 : decode cL_points 8 = .ok (.lastore, 1) := by decide +kernel
theorem dL_points_9 : decode cL_points 9 = .ok (.goto 6, 3) := by decide +kernel
theorem dL_points_12 : decode cL_points 12 = .ok (.astore_n 3, 1) := by decide +kernel
theorem dL_points_13 : decode cL_points 13 = .ok (.iconst 1, 1) := by decide +kernel
theorem dL_points_14 : decode cL_points 14 = .ok (.ireturn, 1) := by decide +kernel
theorem dL_points_15 : decode cL_points 15 = .ok (.iconst 0, 1) := by decide +kernel
theorem dL_points_16 : decode cL_points 16 = .ok (.ireturn, 1) := by decide +kernel
theorem dL_wins_0 : decode cL_wins 0 = .ok (.aload_n 2, 1) := by decide +kernel
theorem dL_wins_1 : decode cL_wins 1 = .ok (.iconst 0, 1) := by decide +kernel
theorem dL_wins_2 : decode cL_wins 2 = .ok (.aload_n 0, 1) := by decide +kernel
theorem dL_wins_3 : decode cL_wins 3 = .ok (.iload_n 1, 1) := by decide +kernel
theorem dL_wins_4 : decode cL_wins 4 = .ok (.invokevirtual 117, 3) := by decide +kernel
theorem dL_wins_7 : decode cL_wins 7 = .ok (.i2l, 1) := by decide +kernel
theorem dL_wins_8 : decode cL_wins 8 = .ok (.lastore, 1) := by decide +kernel
theorem dL_wins_9 : decode cL_wins 9 = .ok (.goto 6, 3) := by decide +kernel
theorem dL_wins_12 : decode cL_wins 12 = .ok (.astore_n 3, 1) := by decide +kernel
theorem dL_wins_13 : decode cL_wins 13 = .ok (.iconst 1, 1) := by decide +kernel
theorem dL_wins_14 : decode cL_wins 14 = .ok (.ireturn, 1) := by decide +kernel
theorem dL_wins_15 : decode cL_wins 15 = .ok (.iconst 0, 1) := by decide +kernel
theorem dL_wins_16 : decode cL_wins 16 = .ok (.ireturn, 1) := by decide +kernel
theorem dL_standing_0 : decode cL_standing 0 = .ok (.aload_n 2, 1) := by decide +kernel
theorem dL_standing_1 : decode cL_standing 1 = .ok (.iconst 0, 1) := by decide +kernel
theorem dL_standing_2 : decode cL_standing 2 = .ok (.aload_n 0, 1) := by decide +kernel
theorem dL_standing_3 : decode cL_standing 3 = .ok (.iload_n 1, 1) := by decide +kernel
theorem dL_standing_4 : decode cL_standing 4 = .ok (.invokevirtual 120, 3) := by decide +kernel
theorem dL_standing_7 : decode cL_standing 7 = .ok (.i2l, 1) := by decide +kernel
theorem dL_standing_8 : decode cL_standing 8 = .ok (.lastore, 1) := by decide +kernel
theorem dL_standing_9 : decode cL_standing 9 = .ok (.goto 6, 3) := by decide +kernel
theorem dL_standing_12 : decode cL_standing 12 = .ok (.astore_n 3, 1) := by decide +kernel
theorem dL_standing_13 : decode cL_standing 13 = .ok (.iconst 1, 1) := by decide +kernel
theorem dL_standing_14 : decode cL_standing 14 = .ok (.ireturn, 1) := by decide +kernel
theorem dL_standing_15 : decode cL_standing 15 = .ok (.iconst 0, 1) := by decide +kernel
theorem dL_standing_16 : decode cL_standing 16 = .ok (.ireturn, 1) := by decide +kernel
theorem dL_shareStored_0 : decode cL_shareStored 0 = .ok (.aload_n 1, 1) := by decide +kernel
theorem dL_shareStored_1 : decode cL_shareStored 1 = .ok (.iconst 0, 1) := by decide +kernel
theorem dL_shareStored_2 : decode cL_shareStored 2 = .ok (.aload_n 0, 1) := by decide +kernel
theorem dL_shareStored_3 : decode cL_shareStored 3 = .ok (.invokevirtual 123, 3) := by decide +kernel
theorem dL_shareStored_6 : decode cL_shareStored 6 = .ok (.f2d, 1) := by decide +kernel
theorem dL_shareStored_7 : decode cL_shareStored 7 = .ok (.dastore, 1) := by decide +kernel
theorem dL_shareStored_8 : decode cL_shareStored 8 = .ok (.goto 6, 3) := by decide +kernel
theorem dL_shareStored_11 : decode cL_shareStored 11 = .ok (.astore_n 2, 1) := by decide +kernel
theorem dL_shareStored_12 : decode cL_shareStored 12 = .ok (.iconst 1, 1) := by decide +kernel
theorem dL_shareStored_13 : decode cL_shareStored 13 = .ok (.ireturn, 1) := by decide +kernel
theorem dL_shareStored_14 : decode cL_shareStored 14 = .ok (.iconst 0, 1) := by decide +kernel
theorem dL_shareStored_15 : decode cL_shareStored 15 = .ok (.ireturn, 1) := by decide +kernel
theorem dL_meanTime_0 : decode cL_meanTime 0 = .ok (.aload_n 1, 1) := by decide +kernel
theorem dL_meanTime_1 : decode cL_meanTime 1 = .ok (.iconst 0, 1) := by decide +kernel
theorem dL_meanTime_2 : decode cL_meanTime 2 = .ok (.aload_n 0, 1) := by decide +kernel
theorem dL_meanTime_3 : decode cL_meanTime 3 = .ok (.invokevirtual 127, 3) := by decide +kernel
theorem dL_meanTime_6 : decode cL_meanTime 6 = .ok (.dastore, 1) := by decide +kernel
theorem dL_meanTime_7 : decode cL_meanTime 7 = .ok (.goto 6, 3) := by decide +kernel
theorem dL_meanTime_10 : decode cL_meanTime 10 = .ok (.astore_n 2, 1) := by decide +kernel
theorem dL_meanTime_11 : decode cL_meanTime 11 = .ok (.iconst 1, 1) := by decide +kernel
theorem dL_meanTime_12 : decode cL_meanTime 12 = .ok (.ireturn, 1) := by decide +kernel
theorem dL_meanTime_13 : decode cL_meanTime 13 = .ok (.iconst 0, 1) := by decide +kernel
theorem dL_meanTime_14 : decode cL_meanTime 14 = .ok (.ireturn, 1) := by decide +kernel
end
section
set_option maxRecDepth 20000 in
theorem ggX0_init_X2_init : GoodIn wsX0_init wsX2_init := goodIn_r _ [9, 10, 2, 3, 11, 12, 15, 16, 17, 18, 19, 20, 21, 22, 23, 24, 25, 26, 27] (by decide +kernel) (by decide +kernel)
set_option maxRecDepth 20000 in
theorem gX0_init_X2_init_n17 : GoodIn wsX0_init (wsX2_init) := ggX0_init_X2_init
set_option maxRecDepth 20000 in
theorem ggX0_hasGhost_X0_has : GoodIn wsX0_hasGhost wsX0_has := goodIn_r _ [8, 9, 10, 11] (by decide +kernel) (by decide +kernel)
set_option maxRecDepth 20000 in
theorem gX0_hasGhost_X0_has : GoodIn wsX0_hasGhost (wsV RX0 22 RX0 yX0_has wsX0_has) := goodIn_app (goodIn_of _ (by decide +kernel)) ggX0_hasGhost_X0_has
set_option maxRecDepth 20000 in
theorem ggX0_add_X0_has : GoodIn wsX0_add wsX0_has := goodIn_r _ [9, 4, 41, 42] (by decide +kernel) (by decide +kernel)
set_option maxRecDepth 20000 in
theorem gX0_add_X0_has : GoodIn wsX0_add (wsV RX0 22 RX0 yX0_has wsX0_has) := goodIn_app (goodIn_of _ (by decide +kernel)) ggX0_add_X0_has
set_option maxRecDepth 20000 in
theorem ggX0_add_X0_store : GoodIn wsX0_add wsX0_store := goodIn_r _ [13, 14, 2, 15, 16, 5, 6, 7, 8, 9, 4, 17, 18, 19, 20, 21, 22, 23, 28, 29, 30, 31, 32, 33, 34, 35, 36, 37, 38, 39, 40, 41, 42] (by decide +kernel) (by decide +kernel)
set_option maxRecDepth 20000 in
theorem gX0_add_X0_store : GoodIn wsX0_add (wsV RX0 39 RX0 yX0_store wsX0_store) := goodIn_app (goodIn_of _ (by decide +kernel)) ggX0_add_X0_store
set_option maxRecDepth 20000 in
theorem ggX0_add_X0_settleDepth : GoodIn wsX0_add wsX0_settleDepth := goodIn_r _ [27, 14, 2, 3, 5, 6, 7, 8, 9, 4, 28, 29, 30, 31, 32, 33, 34, 35, 36, 37, 38, 39, 40, 41, 42] (by decide +kernel) (by decide +kernel)
set_option maxRecDepth 20000 in
theorem gX0_add_X0_settleDepth : GoodIn wsX0_add (wsV RX0 43 RX0 yX0_settleDepth wsX0_settleDepth) := goodIn_app (goodIn_of _ (by decide +kernel)) ggX0_add_X0_settleDepth
set_option maxRecDepth 20000 in
theorem ggX0_store_X0_has : GoodIn wsX0_store wsX0_has := goodIn_r _ [9, 10, 31, 32] (by decide +kernel) (by decide +kernel)
set_option maxRecDepth 20000 in
theorem gX0_store_X0_has : GoodIn wsX0_store (wsV RX0 22 RX0 yX0_has wsX0_has) := goodIn_app (goodIn_of _ (by decide +kernel)) ggX0_store_X0_has
set_option maxRecDepth 20000 in
theorem ggX0_store_X2_inputsUnlike : GoodIn wsX0_store wsX2_inputsUnlike := goodIn_r _ [15, 16, 17, 18, 19, 20, 21, 22, 23, 24, 25, 26, 27, 28, 29, 30] (by decide +kernel) (by decide +kernel)
set_option maxRecDepth 20000 in
theorem gX0_store_X2_inputsUnlike : GoodIn wsX0_store (wsV RX0 50 RX2 yX2_inputsUnlike wsX2_inputsUnlike) := goodIn_app (goodIn_of _ (by decide +kernel)) ggX0_store_X2_inputsUnlike
set_option maxRecDepth 20000 in
theorem ggX0_settleDepth_X0_has : GoodIn wsX0_settleDepth wsX0_has := goodIn_r _ [8, 9, 23, 24] (by decide +kernel) (by decide +kernel)
set_option maxRecDepth 20000 in
theorem gX0_settleDepth_X0_has : GoodIn wsX0_settleDepth (wsV RX0 22 RX0 yX0_has wsX0_has) := goodIn_app (goodIn_of _ (by decide +kernel)) ggX0_settleDepth_X0_has
set_option maxRecDepth 20000 in
theorem ggX0_moveFrom_X0_store : GoodIn wsX0_moveFrom wsX0_store := goodIn_r _ [8, 3, 2, 9, 10, 11, 12, 13, 7, 14, 1, 15, 16, 17, 18, 19, 20, 21, 29, 30, 31, 32, 33, 34, 35, 36, 37, 38, 39, 40, 41, 27, 28] (by decide +kernel) (by decide +kernel)
set_option maxRecDepth 20000 in
theorem gX0_moveFrom_X0_store : GoodIn wsX0_moveFrom (wsV RX0 39 RX0 yX0_store wsX0_store) := goodIn_app (goodIn_of _ (by decide +kernel)) ggX0_moveFrom_X0_store
set_option maxRecDepth 20000 in
theorem ggX0_moveFrom_X0_settleDepth : GoodIn wsX0_moveFrom wsX0_settleDepth := goodIn_r _ [25, 3, 2, 26, 11, 12, 13, 7, 14, 1, 29, 30, 31, 32, 33, 34, 35, 36, 37, 38, 39, 40, 41, 27, 28] (by decide +kernel) (by decide +kernel)
set_option maxRecDepth 20000 in
theorem gX0_moveFrom_X0_settleDepth : GoodIn wsX0_moveFrom (wsV RX0 43 RX0 yX0_settleDepth wsX0_settleDepth) := goodIn_app (goodIn_of _ (by decide +kernel)) ggX0_moveFrom_X0_settleDepth
set_option maxRecDepth 20000 in
theorem ggX0_countResting_X0_restsOn : GoodIn wsX0_countResting wsX0_restsOn := goodIn_r _ [6, 7, 8, 9, 10, 11, 5, 12, 1, 13, 14, 15, 16, 17, 18, 19, 20, 21, 22, 23, 24, 25, 26, 27] (by decide +kernel) (by decide +kernel)
set_option maxRecDepth 20000 in
theorem gX0_countResting_X0_restsOn : GoodIn wsX0_countResting (wsV RX0 60 RX0 yX0_restsOn wsX0_restsOn) := goodIn_app (goodIn_of _ (by decide +kernel)) ggX0_countResting_X0_restsOn
set_option maxRecDepth 20000 in
theorem ggX0_restsOn_X0_has : GoodIn wsX0_restsOn wsX0_has := goodIn_r _ [7, 8, 9, 10] (by decide +kernel) (by decide +kernel)
set_option maxRecDepth 20000 in
theorem gX0_restsOn_X0_has : GoodIn wsX0_restsOn (wsV RX0 22 RX0 yX0_has wsX0_has) := goodIn_app (goodIn_of _ (by decide +kernel)) ggX0_restsOn_X0_has
set_option maxRecDepth 20000 in
theorem ggX0_leastOn_X0_isAhead : GoodIn wsX0_leastOn wsX0_isAhead := goodIn_r _ [9, 2, 10, 11, 12, 8, 13, 1, 14, 15, 16, 17, 18, 19, 20, 21, 22, 23, 24, 25, 26, 27, 28, 29, 30, 31, 32, 33, 34, 35] (by decide +kernel) (by decide +kernel)
set_option maxRecDepth 20000 in
theorem gX0_leastOn_X0_isAhead : GoodIn wsX0_leastOn (wsV RX0 64 RX0 yX0_isAhead wsX0_isAhead) := goodIn_app (goodIn_of _ (by decide +kernel)) ggX0_leastOn_X0_isAhead
set_option maxRecDepth 20000 in
theorem ggX0_isAhead_X0_has : GoodIn wsX0_isAhead wsX0_has := goodIn_r _ [6, 7, 15, 16] (by decide +kernel) (by decide +kernel)
set_option maxRecDepth 20000 in
theorem gX0_isAhead_X0_has : GoodIn wsX0_isAhead (wsV RX0 22 RX0 yX0_has wsX0_has) := goodIn_app (goodIn_of _ (by decide +kernel)) ggX0_isAhead_X0_has
set_option maxRecDepth 20000 in
theorem ggX0_isAhead_X2_counted : GoodIn wsX0_isAhead wsX2_counted := goodIn_r _ [12, 13, 14, 17, 18, 19, 20, 21, 22, 23, 24, 25, 26, 27, 28, 29] (by decide +kernel) (by decide +kernel)
set_option maxRecDepth 20000 in
theorem gX0_isAhead_X2_counted : GoodIn wsX0_isAhead (wsV RX0 67 RX2 yX2_counted wsX2_counted) := goodIn_app (goodIn_of _ (by decide +kernel)) ggX0_isAhead_X2_counted


set_option maxRecDepth 20000 in
theorem ggX3_follow_X3_move : GoodIn wsX3_follow wsX3_move := goodIn_r _ [10, 3, 2, 1, 11, 12, 13, 14, 15, 16, 17, 18, 19, 20, 21, 22, 23, 24, 25, 26, 27, 28, 29, 9, 30, 5, 4, 31, 32, 33, 34, 35, 36, 37, 38, 39, 40, 41, 42, 43, 44, 45, 46, 47, 48, 49, 50, 51] (by decide +kernel) (by decide +kernel)
set_option maxRecDepth 20000 in
theorem gX3_follow_X3_move : GoodIn wsX3_follow (wsV RX3 26 RX3 yX3_move wsX3_move) := goodIn_app (goodIn_of _ (by decide +kernel)) ggX3_follow_X3_move
set_option maxRecDepth 20000 in
theorem ggX3_move_X1_speedAfter : GoodIn wsX3_move wsX1_speedAfter := goodIn_r _ [10, 11, 12, 13, 14, 15, 16, 17, 18, 19, 45, 46, 47] (by decide +kernel) (by decide +kernel)
set_option maxRecDepth 20000 in
theorem gX3_move_X1_speedAfter : GoodIn wsX3_move (wsV RX3 30 RX1 yX1_speedAfter wsX1_speedAfter) := goodIn_app (goodIn_of _ (by decide +kernel)) ggX3_move_X1_speedAfter
set_option maxRecDepth 20000 in
theorem ggX3_move_X3_finish : GoodIn wsX3_move wsX3_finish := goodIn_r _ [24, 25, 2, 1, 26, 35, 36, 37, 38, 39] (by decide +kernel) (by decide +kernel)
set_option maxRecDepth 20000 in
theorem gX3_move_X3_finish : GoodIn wsX3_move (wsV RX3 41 RX3 yX3_finish wsX3_finish) := goodIn_app (goodIn_of _ (by decide +kernel)) ggX3_move_X3_finish
set_option maxRecDepth 20000 in
theorem ggX3_move_X5_limitOf : GoodIn wsX3_move wsX5_limitOf := goodIn_r _ [31, 32, 33, 34, 40, 41, 42, 43, 44] (by decide +kernel) (by decide +kernel)
set_option maxRecDepth 20000 in
theorem gX3_move_X5_limitOf : GoodIn wsX3_move (wsV RX3 45 RX5 yX5_limitOf wsX5_limitOf) := goodIn_app (goodIn_of _ (by decide +kernel)) ggX3_move_X5_limitOf
set_option maxRecDepth 20000 in
theorem ggX4_findLaps_X0_isAhead : GoodIn wsX4_findLaps wsX0_isAhead := goodIn_r _ [11, 12, 13, 14, 15, 10, 16, 17, 18, 19, 20, 21, 22, 23, 24, 33, 34, 35, 36, 37, 38, 39, 40, 41, 42, 43, 44, 45, 46, 47] (by decide +kernel) (by decide +kernel)
set_option maxRecDepth 20000 in
theorem gX4_findLaps_X0_isAhead : GoodIn wsX4_findLaps (wsV RX4 55 RX0 yX0_isAhead wsX0_isAhead) := goodIn_app (goodIn_of _ (by decide +kernel)) ggX4_findLaps_X0_isAhead
set_option maxRecDepth 20000 in
theorem ggX4_lapsAhead_X0_isAhead : GoodIn wsX4_lapsAhead wsX0_isAhead := goodIn_r _ [6, 7, 8, 9, 10, 5, 11, 12, 13, 14, 15, 16, 17, 18, 19, 28, 29, 30, 31, 32, 33, 34, 35, 36, 37, 38, 39, 40, 41, 42] (by decide +kernel) (by decide +kernel)
set_option maxRecDepth 20000 in
theorem gX4_lapsAhead_X0_isAhead : GoodIn wsX4_lapsAhead (wsV RX4 55 RX0 yX0_isAhead wsX0_isAhead) := goodIn_app (goodIn_of _ (by decide +kernel)) ggX4_lapsAhead_X0_isAhead
set_option maxRecDepth 20000 in
theorem ggX4_reckon_X4_findLaps : GoodIn wsX4_reckon wsX4_findLaps := goodIn_r _ [9, 10, 11, 12, 13, 14, 15, 16, 17, 18, 19, 20, 21, 22, 23, 24, 25, 26, 27, 28, 29, 30, 31, 32, 33, 48, 49, 50, 51, 52, 53, 54, 55, 56, 57, 58, 59, 60, 61, 62, 63, 64, 65, 66, 67, 68, 69, 70] (by decide +kernel) (by decide +kernel)
set_option maxRecDepth 20000 in
theorem gX4_reckon_X4_findLaps : GoodIn wsX4_reckon (wsV RX4 59 RX4 yX4_findLaps wsX4_findLaps) := goodIn_app (goodIn_of _ (by decide +kernel)) ggX4_reckon_X4_findLaps
set_option maxRecDepth 20000 in
theorem ggX4_reckon_X4_score : GoodIn wsX4_reckon wsX4_score := goodIn_r _ [37, 10, 2, 38, 1, 39, 40, 41, 8, 42, 16, 17, 18, 19, 20, 21, 22, 23, 24, 25, 26, 27, 28, 29, 30, 31, 32, 33, 48, 49, 50, 51, 52, 53, 54, 55, 56, 57, 58, 59, 60, 61, 62, 63, 64, 65, 66, 67, 68, 69, 70] (by decide +kernel) (by decide +kernel)
set_option maxRecDepth 20000 in
theorem gX4_reckon_X4_score : GoodIn wsX4_reckon (wsV RX4 63 RX4 yX4_score wsX4_score) := goodIn_app (goodIn_of _ (by decide +kernel)) ggX4_reckon_X4_score
set_option maxRecDepth 20000 in
theorem ggX4_reckon_X4_takeLeast : GoodIn wsX4_reckon wsX4_takeLeast := goodIn_r _ [46, 3, 38, 47, 48, 49, 50, 51, 52, 53, 54, 55] (by decide +kernel) (by decide +kernel)
set_option maxRecDepth 20000 in
theorem gX4_reckon_X4_takeLeast : GoodIn wsX4_reckon (wsV RX4 70 RX4 yX4_takeLeast wsX4_takeLeast) := goodIn_app (goodIn_of _ (by decide +kernel)) ggX4_reckon_X4_takeLeast
set_option maxRecDepth 20000 in
theorem ggX4_score_X4_lapsAhead : GoodIn wsX4_score wsX4_lapsAhead := goodIn_r _ [9, 1, 10, 11, 12, 13, 14, 15, 16, 17, 18, 19, 20, 21, 22, 23, 24, 25, 26, 27, 28, 29, 30, 31, 32, 33, 34, 35, 36, 37, 38, 39, 40, 41, 42, 43, 44, 45, 46, 47, 48, 49, 50] (by decide +kernel) (by decide +kernel)
set_option maxRecDepth 20000 in
theorem gX4_score_X4_lapsAhead : GoodIn wsX4_score (wsV RX4 74 RX4 yX4_lapsAhead wsX4_lapsAhead) := goodIn_app (goodIn_of _ (by decide +kernel)) ggX4_score_X4_lapsAhead
set_option maxRecDepth 20000 in
theorem ggX4_driverBehind_X4_isAheadInSeason : GoodIn wsX4_driverBehind wsX4_isAheadInSeason := goodIn_r _ [5, 6, 7, 8, 9, 10, 11, 12, 13, 14, 15] (by decide +kernel) (by decide +kernel)
set_option maxRecDepth 20000 in
theorem gX4_driverBehind_X4_isAheadInSeason : GoodIn wsX4_driverBehind (wsV RX4 84 RX4 yX4_isAheadInSeason wsX4_isAheadInSeason) := goodIn_app (goodIn_of _ (by decide +kernel)) ggX4_driverBehind_X4_isAheadInSeason

set_option maxRecDepth 20000 in
theorem ggX6_init_X3_init : GoodIn wsX6_init wsX3_init := goodIn_r _ [27, 28, 2, 3] (by decide +kernel) (by decide +kernel)
set_option maxRecDepth 20000 in
theorem gX6_init_X3_init_n27 : GoodIn wsX6_init (wsX3_init) := ggX6_init_X3_init
set_option maxRecDepth 20000 in
theorem ggX6_init_X0_init : GoodIn wsX6_init wsX0_init := goodIn_r _ [31, 32, 2, 3, 33, 34, 35, 36, 37, 38, 39, 8, 40, 73, 74, 91, 92, 93, 94, 95, 96, 97, 98, 99, 100, 101, 102, 103] (by decide +kernel) (by decide +kernel)
set_option maxRecDepth 20000 in
theorem gX6_init_X0_init : GoodIn wsX6_init (wsX0_init) := ggX6_init_X0_init
set_option maxRecDepth 20000 in
theorem ggX6_init_X4_init : GoodIn wsX6_init wsX4_init := goodIn_r _ [42, 43, 2, 3, 44, 45, 46, 47, 48, 49, 50, 75, 76, 77, 78, 79, 80, 81, 82] (by decide +kernel) (by decide +kernel)
set_option maxRecDepth 20000 in
theorem gX6_init_X4_init_n41 : GoodIn wsX6_init (wsX4_init) := ggX6_init_X4_init
set_option maxRecDepth 20000 in
theorem ggX6_init_X5_init : GoodIn wsX6_init wsX5_init := goodIn_r _ [52, 53, 2, 3, 44, 54, 55, 83, 84, 85, 86, 87] (by decide +kernel) (by decide +kernel)
set_option maxRecDepth 20000 in
theorem gX6_init_X5_init_n46 : GoodIn wsX6_init (wsX5_init) := ggX6_init_X5_init
set_option maxRecDepth 20000 in
theorem ggX6_init_X1_init : GoodIn wsX6_init wsX1_init := goodIn_r _ [57, 58, 2, 3] (by decide +kernel) (by decide +kernel)
set_option maxRecDepth 20000 in
theorem gX6_init_X1_init_n47 : GoodIn wsX6_init (wsX1_init) := ggX6_init_X1_init
set_option maxRecDepth 20000 in
theorem ggX6_stretch_X6_trackNumbered : GoodIn wsX6_stretch wsX6_trackNumbered := goodIn_ca (goodIn_r _ [14, 15, 16, 17, 18, 36, 37, 38, 39, 40, 41, 42, 43, 44] (by decide +kernel) (by decide +kernel)) (goodIn_sub (fun _ h => List.mem_cons_of_mem _ (List.mem_append_right _ h)) (by decide +kernel))
set_option maxRecDepth 20000 in
theorem gX6_stretch_X6_trackNumbered : GoodIn wsX6_stretch (wsV RX6 59 RX6 yX6_trackNumbered wsX6_trackNumbered) := goodIn_app (goodIn_of _ (by decide +kernel)) ggX6_stretch_X6_trackNumbered
set_option maxRecDepth 20000 in
theorem ggX6_stretch_X6_isWithin : GoodIn wsX6_stretch wsX6_isWithin := goodIn_r _ [21] (by decide +kernel) (by decide +kernel)
set_option maxRecDepth 20000 in
theorem gX6_stretch_X6_isWithin : GoodIn wsX6_stretch (va_wsS RX6 63 yX6_isWithin wsX6_isWithin) := goodIn_app (goodIn_of _ (by decide +kernel)) ggX6_stretch_X6_isWithin
set_option maxRecDepth 20000 in
theorem ggX6_stretch_X5_append : GoodIn wsX6_stretch wsX5_append := goodIn_r _ [26, 27, 28, 29, 30, 31, 32, 33, 34, 35] (by decide +kernel) (by decide +kernel)
set_option maxRecDepth 20000 in
theorem gX6_stretch_X5_append : GoodIn wsX6_stretch (wsV RX6 86 RX5 yX5_append wsX5_append) := goodIn_app (goodIn_of _ (by decide +kernel)) ggX6_stretch_X5_append
set_option maxRecDepth 20000 in
theorem ggX6_car_X6_isWithin : GoodIn wsX6_car wsX6_isWithin := goodIn_r _ [13] (by decide +kernel) (by decide +kernel)
set_option maxRecDepth 20000 in
theorem gX6_car_X6_isWithin : GoodIn wsX6_car (va_wsS RX6 63 yX6_isWithin wsX6_isWithin) := goodIn_app (goodIn_of _ (by decide +kernel)) ggX6_car_X6_isWithin
set_option maxRecDepth 20000 in
theorem ggX6_lengthOf_X6_trackNumbered : GoodIn wsX6_lengthOf wsX6_trackNumbered := goodIn_ca (goodIn_r _ [6, 7, 8, 9, 10, 16, 17, 18, 19, 20, 21, 22, 23, 24] (by decide +kernel) (by decide +kernel)) (goodIn_sub (fun _ h => List.mem_cons_of_mem _ (List.mem_append_right _ h)) (by decide +kernel))
set_option maxRecDepth 20000 in
theorem gX6_lengthOf_X6_trackNumbered : GoodIn wsX6_lengthOf (wsV RX6 59 RX6 yX6_trackNumbered wsX6_trackNumbered) := goodIn_app (goodIn_of _ (by decide +kernel)) ggX6_lengthOf_X6_trackNumbered
set_option maxRecDepth 20000 in
theorem ggX6_limitAt_X6_trackNumbered : GoodIn wsX6_limitAt wsX6_trackNumbered := goodIn_ca (goodIn_r _ [8, 9, 10, 11, 12, 26, 27, 28, 29, 30, 31, 32, 33, 34] (by decide +kernel) (by decide +kernel)) (goodIn_sub (fun _ h => List.mem_cons_of_mem _ (List.mem_append_right _ h)) (by decide +kernel))
set_option maxRecDepth 20000 in
theorem gX6_limitAt_X6_trackNumbered : GoodIn wsX6_limitAt (wsV RX6 59 RX6 yX6_trackNumbered wsX6_trackNumbered) := goodIn_app (goodIn_of _ (by decide +kernel)) ggX6_limitAt_X6_trackNumbered
set_option maxRecDepth 20000 in
theorem ggX6_limitAt_X5_limitOf : GoodIn wsX6_limitAt wsX5_limitOf := goodIn_r _ [17, 18, 19, 20, 21, 22, 23, 24, 25] (by decide +kernel) (by decide +kernel)
set_option maxRecDepth 20000 in
theorem gX6_limitAt_X5_limitOf : GoodIn wsX6_limitAt (wsV RX6 114 RX5 yX5_limitOf wsX5_limitOf) := goodIn_app (goodIn_of _ (by decide +kernel)) ggX6_limitAt_X5_limitOf
set_option maxRecDepth 20000 in
theorem ggX6_type_X6_isWithin : GoodIn wsX6_type wsX6_isWithin := goodIn_r _ [10] (by decide +kernel) (by decide +kernel)
set_option maxRecDepth 20000 in
theorem gX6_type_X6_isWithin : GoodIn wsX6_type (va_wsS RX6 63 yX6_isWithin wsX6_isWithin) := goodIn_app (goodIn_of _ (by decide +kernel)) ggX6_type_X6_isWithin
set_option maxRecDepth 20000 in
theorem ggX6_drive_X6_requireDriver : GoodIn wsX6_drive wsX6_requireDriver := goodIn_ca (goodIn_r _ [22, 23, 24] (by decide +kernel) (by decide +kernel)) (goodIn_sub (fun _ h => List.mem_cons_of_mem _ (List.mem_append_left _ (List.mem_append_right _ h))) (by decide +kernel))
set_option maxRecDepth 20000 in
theorem gX6_drive_X6_requireDriver : GoodIn wsX6_drive (wsV RX6 125 RX6 yX6_requireDriver wsX6_requireDriver) := goodIn_app (goodIn_of _ (by decide +kernel)) ggX6_drive_X6_requireDriver
set_option maxRecDepth 20000 in
theorem ggX6_drive_X6_trackNumbered : GoodIn wsX6_drive wsX6_trackNumbered := goodIn_ca (goodIn_r _ [28, 23, 24, 29, 30, 140, 141, 142, 143, 144, 145, 146, 147, 148] (by decide +kernel) (by decide +kernel)) (goodIn_sub (fun _ h => List.mem_cons_of_mem _ (List.mem_append_left _ (List.mem_append_right _ h))) (by decide +kernel))
set_option maxRecDepth 20000 in
theorem gX6_drive_X6_trackNumbered : GoodIn wsX6_drive (wsV RX6 59 RX6 yX6_trackNumbered wsX6_trackNumbered) := goodIn_app (goodIn_of _ (by decide +kernel)) ggX6_drive_X6_trackNumbered
set_option maxRecDepth 20000 in
theorem ggX6_drive_X6_carNumbered : GoodIn wsX6_drive wsX6_carNumbered := goodIn_ca (goodIn_r _ [34, 23, 24, 35, 36, 140, 141, 142, 143, 144, 145, 146, 147, 148] (by decide +kernel) (by decide +kernel)) (goodIn_sub (fun _ h => List.mem_cons_of_mem _ (List.mem_append_left _ (List.mem_append_right _ h))) (by decide +kernel))
set_option maxRecDepth 20000 in
theorem gX6_drive_X6_carNumbered : GoodIn wsX6_drive (wsV RX6 129 RX6 yX6_carNumbered wsX6_carNumbered) := goodIn_app (goodIn_of _ (by decide +kernel)) ggX6_drive_X6_carNumbered
set_option maxRecDepth 20000 in
theorem ggX6_drive_X0_hasGhost : GoodIn wsX6_drive wsX0_hasGhost := goodIn_r _ [41, 42, 43, 44, 45, 46, 47, 40, 48, 49, 149, 150, 151, 152, 153, 154, 155, 156, 157, 158, 159, 160, 161, 162, 163] (by decide +kernel) (by decide +kernel)
set_option maxRecDepth 20000 in
theorem gX6_drive_X0_hasGhost : GoodIn wsX6_drive (wsV RX6 133 RX0 yX0_hasGhost wsX0_hasGhost) := goodIn_app (goodIn_of _ (by decide +kernel)) ggX6_drive_X0_hasGhost
set_option maxRecDepth 20000 in
theorem ggX6_drive_X6_rideTyped : GoodIn wsX6_drive wsX6_rideTyped := goodIn_ca (goodIn_r _ [53, 54, 55, 56, 14, 15, 17, 57, 58, 59, 60, 61, 62, 63, 64, 65, 66, 67, 68, 69, 70, 71, 72, 73, 74, 75, 76, 77, 78, 79, 80, 81, 82, 83, 84, 85, 86, 87, 88, 89, 90, 91, 92, 93, 94, 95, 96, 97, 98, 99, 164, 165, 166, 167, 168, 140, 141, 142, 143, 144, 145, 146, 147, 148, 169, 170, 171, 172, 173, 174, 175, 176] (by decide +kernel) (by decide +kernel)) (goodIn_sub (fun _ h => List.mem_cons_of_mem _ (List.mem_append_right _ h)) (by decide +kernel))
set_option maxRecDepth 20000 in
theorem gX6_drive_X6_rideTyped : GoodIn wsX6_drive (wsV RX6 139 RX6 yX6_rideTyped wsX6_rideTyped) := goodIn_app (goodIn_of _ (by decide +kernel)) ggX6_drive_X6_rideTyped
set_option maxRecDepth 20000 in
theorem ggX6_drive_X4_roundOn : GoodIn wsX6_drive wsX4_roundOn := goodIn_r _ [104, 105, 106, 107, 177, 178, 179, 180, 181, 182, 183, 184] (by decide +kernel) (by decide +kernel)
set_option maxRecDepth 20000 in
theorem gX6_drive_X4_roundOn : GoodIn wsX6_drive (wsV RX6 166 RX4 yX4_roundOn wsX4_roundOn) := goodIn_app (goodIn_of _ (by decide +kernel)) ggX6_drive_X4_roundOn
set_option maxRecDepth 20000 in
theorem ggX6_drive_X2_keep : GoodIn wsX6_drive wsX2_keep := goodIn_r _ [112, 113, 114, 115, 116, 117, 118, 169, 170, 171, 172, 173, 151, 152, 153, 154, 155, 156, 157, 158, 159, 160, 161, 162, 163] (by decide +kernel) (by decide +kernel)
set_option maxRecDepth 20000 in
theorem gX6_drive_X2_keep : GoodIn wsX6_drive (wsV RX6 172 RX2 yX2_keep wsX2_keep) := goodIn_app (goodIn_of _ (by decide +kernel)) ggX6_drive_X2_keep
set_option maxRecDepth 20000 in
theorem ggX6_drive_X0_add : GoodIn wsX6_drive wsX0_add := goodIn_r _ [122, 123, 42, 124, 49, 45, 46, 47, 40, 48, 125, 126, 127, 128, 129, 130, 131, 132, 133, 134, 111, 135, 115, 114, 136, 137, 138, 139, 151, 152, 153, 154, 155, 156, 157, 158, 159, 160, 161, 162, 163, 149, 150] (by decide +kernel) (by decide +kernel)
set_option maxRecDepth 20000 in
theorem gX6_drive_X0_add : GoodIn wsX6_drive (wsV RX6 176 RX0 yX0_add wsX0_add) := goodIn_app (goodIn_of _ (by decide +kernel)) ggX6_drive_X0_add
set_option maxRecDepth 20000 in
theorem ggX6_tryOut_X6_trackNumbered : GoodIn wsX6_tryOut wsX6_trackNumbered := goodIn_ca (goodIn_r _ [7, 8, 9, 10, 11, 70, 71, 72, 73, 74, 75, 76, 77, 78] (by decide +kernel) (by decide +kernel)) (goodIn_sub (fun _ h => List.mem_cons_of_mem _ (List.mem_append_left _ (List.mem_append_right _ h))) (by decide +kernel))
set_option maxRecDepth 20000 in
theorem gX6_tryOut_X6_trackNumbered : GoodIn wsX6_tryOut (wsV RX6 59 RX6 yX6_trackNumbered wsX6_trackNumbered) := goodIn_app (goodIn_of _ (by decide +kernel)) ggX6_tryOut_X6_trackNumbered
set_option maxRecDepth 20000 in
theorem ggX6_tryOut_X6_carNumbered : GoodIn wsX6_tryOut wsX6_carNumbered := goodIn_ca (goodIn_r _ [15, 8, 9, 16, 17, 70, 71, 72, 73, 74, 75, 76, 77, 78] (by decide +kernel) (by decide +kernel)) (goodIn_sub (fun _ h => List.mem_cons_of_mem _ (List.mem_append_left _ (List.mem_append_right _ h))) (by decide +kernel))
set_option maxRecDepth 20000 in
theorem gX6_tryOut_X6_carNumbered : GoodIn wsX6_tryOut (wsV RX6 129 RX6 yX6_carNumbered wsX6_carNumbered) := goodIn_app (goodIn_of _ (by decide +kernel)) ggX6_tryOut_X6_carNumbered
set_option maxRecDepth 20000 in
theorem ggX6_tryOut_X6_rideTyped : GoodIn wsX6_tryOut wsX6_rideTyped := goodIn_ca (goodIn_r _ [21, 22, 23, 24, 1, 25, 26, 27, 28, 29, 30, 31, 32, 33, 34, 35, 36, 37, 38, 39, 40, 41, 42, 43, 44, 45, 46, 47, 48, 49, 50, 51, 52, 53, 54, 55, 56, 57, 58, 59, 60, 61, 62, 63, 64, 65, 66, 67, 68, 69, 84, 85, 86, 87, 88, 70, 71, 72, 73, 74, 75, 76, 77, 78, 79, 80, 81, 82, 83, 89, 90, 91] (by decide +kernel) (by decide +kernel)) (goodIn_sub (fun _ h => List.mem_cons_of_mem _ (List.mem_append_right _ h)) (by decide +kernel))
set_option maxRecDepth 20000 in
theorem gX6_tryOut_X6_rideTyped : GoodIn wsX6_tryOut (wsV RX6 139 RX6 yX6_rideTyped wsX6_rideTyped) := goodIn_app (goodIn_of _ (by decide +kernel)) ggX6_tryOut_X6_rideTyped
set_option maxRecDepth 20000 in
theorem ggX6_rideTyped_X3_follow : GoodIn wsX6_rideTyped wsX3_follow := goodIn_r _ [12, 13, 14, 15, 16, 17, 18, 19, 20, 11, 21, 22, 23, 24, 25, 26, 27, 28, 29, 30, 31, 32, 33, 34, 35, 36, 37, 38, 39, 40, 41, 42, 43, 44, 45, 46, 47, 48, 49, 64, 65, 66, 67, 68, 50, 51, 52, 53, 54, 69, 70, 71] (by decide +kernel) (by decide +kernel)
set_option maxRecDepth 20000 in
theorem gX6_rideTyped_X3_follow : GoodIn wsX6_rideTyped (wsV RX6 185 RX3 yX3_follow wsX3_follow) := goodIn_app (goodIn_of _ (by decide +kernel)) ggX6_rideTyped_X3_follow
set_option maxRecDepth 20000 in
theorem ggX6_time_X6_lapNumbered : GoodIn wsX6_time wsX6_lapNumbered := goodIn_ca (goodIn_r _ [6, 7, 8, 9, 10, 11, 12, 13, 14, 15, 16, 37, 38, 39, 40, 41, 42, 43, 44, 45, 46, 47] (by decide +kernel) (by decide +kernel)) (goodIn_sub (fun _ h => List.mem_cons_of_mem _ (List.mem_append_right _ h)) (by decide +kernel))
set_option maxRecDepth 20000 in
theorem gX6_time_X6_lapNumbered : GoodIn wsX6_time (wsV RX6 194 RX6 yX6_lapNumbered wsX6_lapNumbered) := goodIn_app (goodIn_of _ (by decide +kernel)) ggX6_time_X6_lapNumbered
set_option maxRecDepth 20000 in
theorem ggX6_time_X2_counted : GoodIn wsX6_time wsX2_counted := goodIn_r _ [21, 22, 23, 24, 25, 26, 27, 28, 29, 30, 31, 32, 33, 34, 35, 36] (by decide +kernel) (by decide +kernel)
set_option maxRecDepth 20000 in
theorem gX6_time_X2_counted : GoodIn wsX6_time (wsV RX6 198 RX2 yX2_counted wsX2_counted) := goodIn_app (goodIn_of _ (by decide +kernel)) ggX6_time_X2_counted
set_option maxRecDepth 20000 in
theorem ggX6_ticks_X6_lapNumbered : GoodIn wsX6_ticks wsX6_lapNumbered := goodIn_ca (goodIn_r _ [6, 7, 8, 9, 10, 11, 12, 13, 14, 15, 16, 30, 31, 32, 33, 34, 35, 36, 37, 38, 39, 40] (by decide +kernel) (by decide +kernel)) (goodIn_sub (fun _ h => List.mem_cons_of_mem _ (List.mem_append_right _ h)) (by decide +kernel))
set_option maxRecDepth 20000 in
theorem gX6_ticks_X6_lapNumbered : GoodIn wsX6_ticks (wsV RX6 194 RX6 yX6_lapNumbered wsX6_lapNumbered) := goodIn_app (goodIn_of _ (by decide +kernel)) ggX6_ticks_X6_lapNumbered
set_option maxRecDepth 20000 in
theorem ggX6_inputAt_X6_lapNumbered : GoodIn wsX6_inputAt wsX6_lapNumbered := goodIn_ca (goodIn_r _ [9, 10, 11, 12, 13, 14, 15, 16, 17, 18, 19, 33, 34, 35, 36, 37, 38, 39, 40, 41, 42, 43] (by decide +kernel) (by decide +kernel)) (goodIn_sub (fun _ h => List.mem_cons_of_mem _ (List.mem_append_right _ h)) (by decide +kernel))
set_option maxRecDepth 20000 in
theorem gX6_inputAt_X6_lapNumbered : GoodIn wsX6_inputAt (wsV RX6 194 RX6 yX6_lapNumbered wsX6_lapNumbered) := goodIn_app (goodIn_of _ (by decide +kernel)) ggX6_inputAt_X6_lapNumbered
set_option maxRecDepth 20000 in
theorem ggX6_replay_X6_lapNumbered : GoodIn wsX6_replay wsX6_lapNumbered := goodIn_ca (goodIn_r _ [11, 12, 13, 14, 15, 16, 17, 18, 19, 20, 21, 96, 97, 98, 99, 100, 101, 102, 103, 104, 110, 111] (by decide +kernel) (by decide +kernel)) (goodIn_sub (fun _ h => List.mem_cons_of_mem _ (List.mem_append_right _ h)) (by decide +kernel))
set_option maxRecDepth 20000 in
theorem gX6_replay_X6_lapNumbered : GoodIn wsX6_replay (wsV RX6 194 RX6 yX6_lapNumbered wsX6_lapNumbered) := goodIn_app (goodIn_of _ (by decide +kernel)) ggX6_replay_X6_lapNumbered
set_option maxRecDepth 20000 in
theorem ggX6_replay_X6_rideAgain : GoodIn wsX6_replay wsX6_rideAgain := goodIn_ca (goodIn_r _ [25, 4, 26, 27, 28, 29, 30, 31, 10, 32, 12, 13, 33, 34, 35, 36, 37, 38, 39, 40, 41, 42, 43, 44, 45, 46, 47, 48, 49, 50, 51, 52, 53, 54, 55, 56, 57, 58, 59, 60, 61, 62, 63, 64, 65, 66, 67, 68, 69, 70, 71, 72, 73, 74, 75, 76, 77, 78, 79, 80, 81, 82, 96, 97, 98, 99, 100, 101, 102, 103, 104, 83, 84, 85, 86, 87, 88, 89, 90, 91, 92, 93, 94, 95, 105, 106, 107, 108, 109, 112, 113, 114, 115, 116, 117, 118, 119] (by decide +kernel) (by decide +kernel)) (goodIn_sub (fun _ h => List.mem_cons_of_mem _ (List.mem_append_right _ h)) (by decide +kernel))
set_option maxRecDepth 20000 in
theorem gX6_replay_X6_rideAgain : GoodIn wsX6_replay (wsV RX6 213 RX6 yX6_rideAgain wsX6_rideAgain) := goodIn_app (goodIn_of _ (by decide +kernel)) ggX6_replay_X6_rideAgain
set_option maxRecDepth 20000 in
theorem ggX6_of_X6_lapNumbered : GoodIn wsX6_of wsX6_lapNumbered := goodIn_ca (goodIn_r _ [12, 13, 14, 15, 16, 17, 18, 19, 20, 21, 22, 36, 37, 38, 39, 40, 41, 42, 43, 44, 45, 46] (by decide +kernel) (by decide +kernel)) (goodIn_sub (fun _ h => List.mem_cons_of_mem _ (List.mem_append_right _ h)) (by decide +kernel))
set_option maxRecDepth 20000 in
theorem gX6_of_X6_lapNumbered : GoodIn wsX6_of (wsV RX6 194 RX6 yX6_lapNumbered wsX6_lapNumbered) := goodIn_app (goodIn_of _ (by decide +kernel)) ggX6_of_X6_lapNumbered
set_option maxRecDepth 20000 in
theorem ggX6_beats_X6_lapNumbered : GoodIn wsX6_beats wsX6_lapNumbered := goodIn_ca (goodIn_r _ [10, 11, 12, 3, 5, 13, 14, 15, 16, 17, 18, 26, 27, 28, 29, 30, 31, 32, 33, 34, 48, 49] (by decide +kernel) (by decide +kernel)) (goodIn_sub (fun _ h => List.mem_cons_of_mem _ (List.mem_append_right _ h)) (by decide +kernel))
set_option maxRecDepth 20000 in
theorem gX6_beats_X6_lapNumbered : GoodIn wsX6_beats (wsV RX6 194 RX6 yX6_lapNumbered wsX6_lapNumbered) := goodIn_app (goodIn_of _ (by decide +kernel)) ggX6_beats_X6_lapNumbered
set_option maxRecDepth 20000 in
theorem ggX6_beats_X0_has : GoodIn wsX6_beats wsX0_has := goodIn_r _ [17, 18, 48, 49] (by decide +kernel) (by decide +kernel)
set_option maxRecDepth 20000 in
theorem gX6_beats_X0_has : GoodIn wsX6_beats (wsV RX6 225 RX0 yX0_has wsX0_has) := goodIn_app (goodIn_of _ (by decide +kernel)) ggX6_beats_X0_has
set_option maxRecDepth 20000 in
theorem ggX6_beats_X2_counted : GoodIn wsX6_beats wsX2_counted := goodIn_r _ [23, 24, 25, 35, 36, 37, 38, 39, 40, 41, 42, 43, 44, 45, 46, 47] (by decide +kernel) (by decide +kernel)
set_option maxRecDepth 20000 in
theorem gX6_beats_X2_counted : GoodIn wsX6_beats (wsV RX6 198 RX2 yX2_counted wsX2_counted) := goodIn_app (goodIn_of _ (by decide +kernel)) ggX6_beats_X2_counted
set_option maxRecDepth 20000 in
theorem ggX6_least_X6_trackNumbered : GoodIn wsX6_least wsX6_trackNumbered := goodIn_ca (goodIn_r _ [8, 9, 10, 11, 12, 37, 38, 39, 40, 41, 42, 43, 44, 45] (by decide +kernel) (by decide +kernel)) (goodIn_sub (fun _ h => List.mem_cons_of_mem _ (List.mem_append_right _ h)) (by decide +kernel))
set_option maxRecDepth 20000 in
theorem gX6_least_X6_trackNumbered : GoodIn wsX6_least (wsV RX6 59 RX6 yX6_trackNumbered wsX6_trackNumbered) := goodIn_app (goodIn_of _ (by decide +kernel)) ggX6_least_X6_trackNumbered
set_option maxRecDepth 20000 in
theorem ggX6_least_X0_leastOn : GoodIn wsX6_least wsX0_leastOn := goodIn_r _ [17, 18, 19, 20, 21, 22, 23, 24, 16, 25, 26, 27, 28, 29, 30, 31, 32, 33, 34, 35, 36, 46, 47, 48, 49, 50, 51, 52, 53, 54, 55, 56, 57, 58, 59, 60] (by decide +kernel) (by decide +kernel)
set_option maxRecDepth 20000 in
theorem gX6_least_X0_leastOn : GoodIn wsX6_least (wsV RX6 231 RX0 yX0_leastOn wsX0_leastOn) := goodIn_app (goodIn_of _ (by decide +kernel)) ggX6_least_X0_leastOn
set_option maxRecDepth 20000 in
theorem ggX6_base_X6_lapNumbered : GoodIn wsX6_base wsX6_lapNumbered := goodIn_ca (goodIn_r _ [8, 9, 10, 11, 12, 13, 14, 15, 16, 17, 18, 32, 33, 34, 35, 36, 37, 38, 39, 40, 41, 42] (by decide +kernel) (by decide +kernel)) (goodIn_sub (fun _ h => List.mem_cons_of_mem _ (List.mem_append_right _ h)) (by decide +kernel))
set_option maxRecDepth 20000 in
theorem gX6_base_X6_lapNumbered : GoodIn wsX6_base (wsV RX6 194 RX6 yX6_lapNumbered wsX6_lapNumbered) := goodIn_app (goodIn_of _ (by decide +kernel)) ggX6_base_X6_lapNumbered
set_option maxRecDepth 20000 in
theorem ggX6_depth_X6_lapNumbered : GoodIn wsX6_depth wsX6_lapNumbered := goodIn_ca (goodIn_r _ [6, 7, 8, 9, 10, 11, 12, 13, 14, 15, 16, 30, 31, 32, 33, 34, 35, 36, 37, 38, 39, 40] (by decide +kernel) (by decide +kernel)) (goodIn_sub (fun _ h => List.mem_cons_of_mem _ (List.mem_append_right _ h)) (by decide +kernel))
set_option maxRecDepth 20000 in
theorem gX6_depth_X6_lapNumbered : GoodIn wsX6_depth (wsV RX6 194 RX6 yX6_lapNumbered wsX6_lapNumbered) := goodIn_app (goodIn_of _ (by decide +kernel)) ggX6_depth_X6_lapNumbered
set_option maxRecDepth 20000 in
theorem ggX6_parts_X6_lapNumbered : GoodIn wsX6_parts wsX6_lapNumbered := goodIn_ca (goodIn_r _ [6, 7, 8, 9, 10, 11, 12, 13, 14, 15, 16, 30, 31, 32, 33, 34, 35, 36, 37, 38, 39, 40] (by decide +kernel) (by decide +kernel)) (goodIn_sub (fun _ h => List.mem_cons_of_mem _ (List.mem_append_right _ h)) (by decide +kernel))
set_option maxRecDepth 20000 in
theorem gX6_parts_X6_lapNumbered : GoodIn wsX6_parts (wsV RX6 194 RX6 yX6_lapNumbered wsX6_lapNumbered) := goodIn_app (goodIn_of _ (by decide +kernel)) ggX6_parts_X6_lapNumbered
set_option maxRecDepth 20000 in
theorem ggX6_resting_X6_lapNumbered : GoodIn wsX6_resting wsX6_lapNumbered := goodIn_ca (goodIn_r _ [6, 7, 8, 1, 9, 10, 11, 12, 13, 14, 15, 27, 28, 29, 30, 31, 32, 33, 34, 35, 36, 37] (by decide +kernel) (by decide +kernel)) (goodIn_sub (fun _ h => List.mem_cons_of_mem _ (List.mem_append_right _ h)) (by decide +kernel))
set_option maxRecDepth 20000 in
theorem gX6_resting_X6_lapNumbered : GoodIn wsX6_resting (wsV RX6 194 RX6 yX6_lapNumbered wsX6_lapNumbered) := goodIn_app (goodIn_of _ (by decide +kernel)) ggX6_resting_X6_lapNumbered
set_option maxRecDepth 20000 in
theorem ggX6_resting_X0_countResting : GoodIn wsX6_resting wsX0_countResting := goodIn_r _ [19, 15, 20, 21, 22, 13, 23, 24, 25, 26, 11, 12, 14, 36, 37, 38, 39, 40, 41, 42, 43, 44, 45, 46, 47, 48, 49, 50] (by decide +kernel) (by decide +kernel)
set_option maxRecDepth 20000 in
theorem gX6_resting_X0_countResting : GoodIn wsX6_resting (wsV RX6 247 RX0 yX0_countResting wsX0_countResting) := goodIn_app (goodIn_of _ (by decide +kernel)) ggX6_resting_X0_countResting
set_option maxRecDepth 20000 in
theorem ggX6_strike_X6_lapNumbered : GoodIn wsX6_strike wsX6_lapNumbered := goodIn_ca (goodIn_r _ [10, 11, 12, 4, 13, 14, 15, 16, 17, 18, 19, 58, 59, 60, 61, 62, 63, 64, 65, 66, 67, 68] (by decide +kernel) (by decide +kernel)) (goodIn_sub (fun _ h => List.mem_cons_of_mem _ (List.mem_append_right _ h)) (by decide +kernel))
set_option maxRecDepth 20000 in
theorem gX6_strike_X6_lapNumbered : GoodIn wsX6_strike (wsV RX6 194 RX6 yX6_lapNumbered wsX6_lapNumbered) := goodIn_app (goodIn_of _ (by decide +kernel)) ggX6_strike_X6_lapNumbered
set_option maxRecDepth 20000 in
theorem ggX6_strike_X0_moveFrom : GoodIn wsX6_strike wsX0_moveFrom := goodIn_r _ [23, 19, 24, 25, 26, 27, 28, 17, 29, 30, 31, 32, 15, 16, 18, 33, 34, 35, 36, 37, 38, 39, 40, 41, 42, 43, 44, 67, 68, 45, 46, 47, 48, 49, 50, 51, 52, 53, 54, 55, 56, 57] (by decide +kernel) (by decide +kernel)
set_option maxRecDepth 20000 in
theorem gX6_strike_X0_moveFrom : GoodIn wsX6_strike (wsV RX6 255 RX0 yX0_moveFrom wsX0_moveFrom) := goodIn_app (goodIn_of _ (by decide +kernel)) ggX6_strike_X0_moveFrom
set_option maxRecDepth 20000 in
theorem ggX6_giveBack_X6_lapNumbered : GoodIn wsX6_giveBack wsX6_lapNumbered := goodIn_ca (goodIn_r _ [9, 10, 11, 4, 12, 13, 14, 15, 16, 17, 18, 38, 39, 40, 41, 42, 43, 44, 45, 46, 47, 48] (by decide +kernel) (by decide +kernel)) (goodIn_sub (fun _ h => List.mem_cons_of_mem _ (List.mem_append_right _ h)) (by decide +kernel))
set_option maxRecDepth 20000 in
theorem gX6_giveBack_X6_lapNumbered : GoodIn wsX6_giveBack (wsV RX6 194 RX6 yX6_lapNumbered wsX6_lapNumbered) := goodIn_app (goodIn_of _ (by decide +kernel)) ggX6_giveBack_X6_lapNumbered
set_option maxRecDepth 20000 in
theorem ggX6_giveBack_X0_countStanding : GoodIn wsX6_giveBack wsX0_countStanding := goodIn_r _ [22, 18, 23, 24, 47, 48, 25, 26, 27, 28, 29, 30, 31, 32, 33, 34, 35, 36, 37] (by decide +kernel) (by decide +kernel)
set_option maxRecDepth 20000 in
theorem gX6_giveBack_X0_countStanding : GoodIn wsX6_giveBack (wsV RX6 261 RX0 yX0_countStanding wsX0_countStanding) := goodIn_app (goodIn_of _ (by decide +kernel)) ggX6_giveBack_X0_countStanding
set_option maxRecDepth 20000 in
theorem ggX6_stands_X6_lapNumbered : GoodIn wsX6_stands wsX6_lapNumbered := goodIn_ca (goodIn_r _ [6, 7, 8, 9, 10, 11, 12, 13, 14, 15, 16, 30, 31, 32, 33, 34, 35, 36, 37, 38, 39, 40] (by decide +kernel) (by decide +kernel)) (goodIn_sub (fun _ h => List.mem_cons_of_mem _ (List.mem_append_right _ h)) (by decide +kernel))
set_option maxRecDepth 20000 in
theorem gX6_stands_X6_lapNumbered : GoodIn wsX6_stands (wsV RX6 194 RX6 yX6_lapNumbered wsX6_lapNumbered) := goodIn_app (goodIn_of _ (by decide +kernel)) ggX6_stands_X6_lapNumbered
set_option maxRecDepth 20000 in
theorem ggX6_penalty_X6_lapNumbered : GoodIn wsX6_penalty wsX6_lapNumbered := goodIn_ca (goodIn_r _ [8, 9, 10, 11, 12, 13, 14, 15, 16, 17, 18, 35, 36, 37, 38, 39, 40, 41, 42, 43, 44, 45] (by decide +kernel) (by decide +kernel)) (goodIn_sub (fun _ h => List.mem_cons_of_mem _ (List.mem_append_right _ h)) (by decide +kernel))
set_option maxRecDepth 20000 in
theorem gX6_penalty_X6_lapNumbered : GoodIn wsX6_penalty (wsV RX6 194 RX6 yX6_lapNumbered wsX6_lapNumbered) := goodIn_app (goodIn_of _ (by decide +kernel)) ggX6_penalty_X6_lapNumbered
set_option maxRecDepth 20000 in
theorem ggX6_penalty_X6_isWithin : GoodIn wsX6_penalty wsX6_isWithin := goodIn_r _ [21] (by decide +kernel) (by decide +kernel)
set_option maxRecDepth 20000 in
theorem gX6_penalty_X6_isWithin : GoodIn wsX6_penalty (va_wsS RX6 63 yX6_isWithin wsX6_isWithin) := goodIn_app (goodIn_of _ (by decide +kernel)) ggX6_penalty_X6_isWithin
set_option maxRecDepth 20000 in
theorem ggX6_round_X6_trackNumbered : GoodIn wsX6_round wsX6_trackNumbered := goodIn_ca (goodIn_r _ [10, 11, 12, 13, 14, 23, 24, 25, 26, 27, 28, 29, 30, 31] (by decide +kernel) (by decide +kernel)) (goodIn_sub (fun _ h => List.mem_cons_of_mem _ (List.mem_append_right _ h)) (by decide +kernel))
set_option maxRecDepth 20000 in
theorem gX6_round_X6_trackNumbered : GoodIn wsX6_round (wsV RX6 59 RX6 yX6_trackNumbered wsX6_trackNumbered) := goodIn_app (goodIn_of _ (by decide +kernel)) ggX6_round_X6_trackNumbered
set_option maxRecDepth 20000 in
theorem ggX6_round_X4_openOn : GoodIn wsX6_round wsX4_openOn := goodIn_r _ [19, 20, 21, 22, 32, 33, 34, 35, 36, 37, 38, 39] (by decide +kernel) (by decide +kernel)
set_option maxRecDepth 20000 in
theorem gX6_round_X4_openOn : GoodIn wsX6_round (wsV RX6 274 RX4 yX4_openOn wsX4_openOn) := goodIn_app (goodIn_of _ (by decide +kernel)) ggX6_round_X4_openOn
set_option maxRecDepth 20000 in
theorem ggX6_lapIn_X6_findLap : GoodIn wsX6_lapIn wsX6_findLap := goodIn_ca (goodIn_ca (goodIn_r _ [5, 6, 7, 8, 9, 10, 11, 12, 13, 14, 15, 16, 4, 17, 18, 19, 20, 21, 22, 23, 24, 25, 26, 27, 28, 29, 30, 31, 32, 33, 34, 35, 36, 37, 38, 39, 40, 41, 42, 43, 44, 45, 46, 47, 48, 49, 50, 51, 52, 53, 54, 55, 56, 57, 58, 59, 60, 61, 62, 63, 64, 65, 66, 67, 68, 69, 70, 71, 72, 73, 74, 75, 76, 77, 78] (by decide +kernel) (by decide +kernel)) (goodIn_sub (fun _ h => List.mem_cons_of_mem _ (List.mem_append_left _ (List.mem_append_right _ h))) (by decide +kernel))) (goodIn_sub (fun _ h => List.mem_cons_of_mem _ (List.mem_append_right _ h)) (by decide +kernel))
set_option maxRecDepth 20000 in
theorem gX6_lapIn_X6_findLap : GoodIn wsX6_lapIn (wsV RX6 282 RX6 yX6_findLap wsX6_findLap) := goodIn_app (goodIn_of _ (by decide +kernel)) ggX6_lapIn_X6_findLap
set_option maxRecDepth 20000 in
theorem ggX6_placeIn_X6_findLap : GoodIn wsX6_placeIn wsX6_findLap := goodIn_ca (goodIn_ca (goodIn_r _ [7, 8, 9, 10, 11, 1, 12, 2, 13, 14, 15, 16, 6, 17, 18, 19, 20, 21, 22, 23, 24, 25, 26, 27, 28, 29, 30, 31, 32, 33, 34, 35, 36, 37, 38, 39, 40, 41, 42, 43, 44, 45, 46, 51, 52, 53, 54, 55, 56, 57, 58, 59, 60, 61, 62, 63, 64, 65, 66, 67, 68, 69, 70, 71, 72, 73, 74, 75, 76, 77, 78, 79, 80, 81, 82] (by decide +kernel) (by decide +kernel)) (goodIn_sub (fun _ h => List.mem_cons_of_mem _ (List.mem_append_left _ (List.mem_append_right _ h))) (by decide +kernel))) (goodIn_sub (fun _ h => List.mem_cons_of_mem _ (List.mem_append_right _ h)) (by decide +kernel))
set_option maxRecDepth 20000 in
theorem gX6_placeIn_X6_findLap : GoodIn wsX6_placeIn (wsV RX6 282 RX6 yX6_findLap wsX6_findLap) := goodIn_app (goodIn_of _ (by decide +kernel)) ggX6_placeIn_X6_findLap
set_option maxRecDepth 20000 in
theorem ggX6_placeIn_X4_lapsAhead : GoodIn wsX6_placeIn wsX4_lapsAhead := goodIn_r _ [50, 23, 29, 30, 31, 32, 33, 34, 35, 36, 37, 38, 39, 40, 41, 42, 43, 44, 45, 46, 60, 61, 62, 63, 64, 65, 66, 67, 68, 69, 70, 71, 72, 73, 74, 75, 76, 77, 78, 79, 80, 81, 82] (by decide +kernel) (by decide +kernel)
set_option maxRecDepth 20000 in
theorem gX6_placeIn_X4_lapsAhead : GoodIn wsX6_placeIn (wsV RX6 285 RX4 yX4_lapsAhead wsX4_lapsAhead) := goodIn_app (goodIn_of _ (by decide +kernel)) ggX6_placeIn_X4_lapsAhead
set_option maxRecDepth 20000 in
theorem ggX6_findLap_X6_requireDriver : GoodIn wsX6_findLap wsX6_requireDriver := goodIn_ca (goodIn_r _ [13, 1, 2] (by decide +kernel) (by decide +kernel)) (goodIn_sub (fun _ h => List.mem_cons_of_mem _ (List.mem_append_left _ (List.mem_append_right _ h))) (by decide +kernel))
set_option maxRecDepth 20000 in
theorem gX6_findLap_X6_requireDriver : GoodIn wsX6_findLap (wsV RX6 125 RX6 yX6_requireDriver wsX6_requireDriver) := goodIn_app (goodIn_of _ (by decide +kernel)) ggX6_findLap_X6_requireDriver
set_option maxRecDepth 20000 in
theorem ggX6_findLap_X4_findLaps : GoodIn wsX6_findLap wsX4_findLaps := goodIn_r _ [18, 19, 20, 21, 22, 23, 24, 25, 26, 27, 28, 29, 30, 31, 32, 33, 34, 35, 36, 37, 38, 39, 40, 41, 42, 52, 53, 54, 55, 56, 57, 58, 59, 60, 61, 62, 63, 64, 65, 66, 67, 68, 69, 70, 71, 72, 73, 74] (by decide +kernel) (by decide +kernel)
set_option maxRecDepth 20000 in
theorem gX6_findLap_X4_findLaps : GoodIn wsX6_findLap (wsV RX6 294 RX4 yX4_findLaps wsX4_findLaps) := goodIn_app (goodIn_of _ (by decide +kernel)) ggX6_findLap_X4_findLaps
set_option maxRecDepth 20000 in
theorem ggX6_drop_X6_isWithin : GoodIn wsX6_drop wsX6_isWithin := goodIn_r _ [8] (by decide +kernel) (by decide +kernel)
set_option maxRecDepth 20000 in
theorem gX6_drop_X6_isWithin : GoodIn wsX6_drop (va_wsS RX6 63 yX6_isWithin wsX6_isWithin) := goodIn_app (goodIn_of _ (by decide +kernel)) ggX6_drop_X6_isWithin
set_option maxRecDepth 20000 in
theorem ggX6_points_X6_requireDriver : GoodIn wsX6_points wsX6_requireDriver := goodIn_ca (goodIn_r _ [8, 9, 10] (by decide +kernel) (by decide +kernel)) (goodIn_sub (fun _ h => List.mem_cons_of_mem _ (List.mem_append_right _ h)) (by decide +kernel))
set_option maxRecDepth 20000 in
theorem gX6_points_X6_requireDriver : GoodIn wsX6_points (wsV RX6 125 RX6 yX6_requireDriver wsX6_requireDriver) := goodIn_app (goodIn_of _ (by decide +kernel)) ggX6_points_X6_requireDriver
set_option maxRecDepth 20000 in
theorem ggX6_points_X4_reckon : GoodIn wsX6_points wsX4_reckon := goodIn_r _ [15, 16, 17, 18, 19, 20, 21, 22, 14, 23, 24, 25, 26, 27, 28, 29, 30, 31, 32, 33, 34, 35, 36, 37, 38, 39, 40, 41, 42, 43, 44, 45, 46, 47, 48, 49, 50, 51, 52, 53, 54, 55, 56, 57, 58, 59, 60, 61, 71, 72, 73, 74, 75, 76, 77, 78, 79, 80, 81, 82, 83, 84, 85, 86, 87, 88, 89, 90, 91, 92, 93] (by decide +kernel) (by decide +kernel)
set_option maxRecDepth 20000 in
theorem gX6_points_X4_reckon : GoodIn wsX6_points (wsV RX6 309 RX4 yX4_reckon wsX4_reckon) := goodIn_app (goodIn_of _ (by decide +kernel)) ggX6_points_X4_reckon
set_option maxRecDepth 20000 in
theorem ggX6_wins_X6_requireDriver : GoodIn wsX6_wins wsX6_requireDriver := goodIn_ca (goodIn_r _ [8, 9, 10] (by decide +kernel) (by decide +kernel)) (goodIn_sub (fun _ h => List.mem_cons_of_mem _ (List.mem_append_right _ h)) (by decide +kernel))
set_option maxRecDepth 20000 in
theorem gX6_wins_X6_requireDriver : GoodIn wsX6_wins (wsV RX6 125 RX6 yX6_requireDriver wsX6_requireDriver) := goodIn_app (goodIn_of _ (by decide +kernel)) ggX6_wins_X6_requireDriver
set_option maxRecDepth 20000 in
theorem ggX6_wins_X4_reckon : GoodIn wsX6_wins wsX4_reckon := goodIn_r _ [15, 16, 17, 18, 19, 20, 21, 22, 14, 23, 24, 25, 26, 27, 28, 29, 30, 31, 32, 33, 34, 35, 36, 37, 38, 39, 40, 41, 42, 43, 44, 45, 46, 47, 48, 49, 50, 51, 52, 53, 54, 55, 56, 57, 58, 59, 60, 61, 71, 72, 73, 74, 75, 76, 77, 78, 79, 80, 81, 82, 83, 84, 85, 86, 87, 88, 89, 90, 91, 92, 93] (by decide +kernel) (by decide +kernel)
set_option maxRecDepth 20000 in
theorem gX6_wins_X4_reckon : GoodIn wsX6_wins (wsV RX6 309 RX4 yX4_reckon wsX4_reckon) := goodIn_app (goodIn_of _ (by decide +kernel)) ggX6_wins_X4_reckon
set_option maxRecDepth 20000 in
theorem ggX6_standing_X4_reckon : GoodIn wsX6_standing wsX4_reckon := goodIn_r _ [9, 10, 11, 12, 13, 14, 15, 16, 8, 17, 18, 19, 20, 21, 22, 23, 24, 25, 26, 27, 28, 29, 30, 31, 32, 33, 34, 35, 36, 37, 38, 39, 40, 41, 42, 43, 44, 45, 46, 47, 48, 49, 50, 51, 52, 53, 54, 55, 73, 74, 75, 76, 77, 78, 79, 80, 81, 82, 83, 84, 85, 86, 87, 88, 89, 90, 91, 92, 93, 94, 95] (by decide +kernel) (by decide +kernel)
set_option maxRecDepth 20000 in
theorem gX6_standing_X4_reckon : GoodIn wsX6_standing (wsV RX6 309 RX4 yX4_reckon wsX4_reckon) := goodIn_app (goodIn_of _ (by decide +kernel)) ggX6_standing_X4_reckon
set_option maxRecDepth 20000 in
theorem ggX6_standing_X4_driverBehind : GoodIn wsX6_standing wsX4_driverBehind := goodIn_r _ [59, 60, 61, 62, 8, 63, 10, 11, 73, 74, 75, 76, 77, 78, 79, 80] (by decide +kernel) (by decide +kernel)
set_option maxRecDepth 20000 in
theorem gX6_standing_X4_driverBehind : GoodIn wsX6_standing (wsV RX6 319 RX4 yX4_driverBehind wsX4_driverBehind) := goodIn_app (goodIn_of _ (by decide +kernel)) ggX6_standing_X4_driverBehind
set_option maxRecDepth 20000 in
theorem ggX6_shareStored_X6_stored : GoodIn wsX6_shareStored wsX6_stored := goodIn_r _ [11, 3, 4, 5, 12, 13, 14, 15, 16, 17, 18, 19, 20, 21, 22, 23, 24, 25, 26, 27, 28, 29, 30, 31, 32, 33, 34, 35, 36] (by decide +kernel) (by decide +kernel)
set_option maxRecDepth 20000 in
theorem gX6_shareStored_X6_stored : GoodIn wsX6_shareStored (wsV RX6 328 RX6 yX6_stored wsX6_stored) := goodIn_app (goodIn_of _ (by decide +kernel)) ggX6_shareStored_X6_stored
set_option maxRecDepth 20000 in
theorem ggX6_meanTime_X0_countStanding : GoodIn wsX6_meanTime wsX0_countStanding := goodIn_r _ [11, 12, 13, 14, 31, 32, 33, 34, 35, 36, 37, 38, 39, 40, 41, 42, 43, 44, 45] (by decide +kernel) (by decide +kernel)
set_option maxRecDepth 20000 in
theorem gX6_meanTime_X0_countStanding : GoodIn wsX6_meanTime (wsV RX6 261 RX0 yX0_countStanding wsX0_countStanding) := goodIn_app (goodIn_of _ (by decide +kernel)) ggX6_meanTime_X0_countStanding
set_option maxRecDepth 20000 in
theorem ggX6_meanTime_X2_counted : GoodIn wsX6_meanTime wsX2_counted := goodIn_r _ [19, 20, 21, 33, 34, 35, 36, 37, 38, 39, 40, 41, 42, 43, 44, 45] (by decide +kernel) (by decide +kernel)
set_option maxRecDepth 20000 in
theorem gX6_meanTime_X2_counted : GoodIn wsX6_meanTime (wsV RX6 198 RX2 yX2_counted wsX2_counted) := goodIn_app (goodIn_of _ (by decide +kernel)) ggX6_meanTime_X2_counted
set_option maxRecDepth 20000 in
theorem ggX6_isSound_X6_rideAgain : GoodIn wsX6_isSound wsX6_rideAgain := goodIn_ca (goodIn_r _ [16, 5, 17, 18, 19, 20, 21, 22, 15, 23, 24, 25, 26, 27, 28, 29, 30, 31, 32, 33, 34, 35, 36, 37, 38, 39, 40, 41, 42, 43, 44, 45, 46, 47, 48, 49, 50, 51, 52, 53, 54, 55, 56, 57, 58, 59, 60, 61, 62, 63, 64, 65, 66, 67, 68, 69, 70, 71, 72, 73, 74, 75, 82, 83, 84, 85, 86, 87, 88, 89, 90, 93, 94, 95, 96, 97, 98, 99, 100, 101, 102, 103, 104, 105, 106, 107, 108, 109, 110, 111, 112, 113, 114, 115, 116, 117, 118] (by decide +kernel) (by decide +kernel)) (goodIn_sub (fun _ h => List.mem_cons_of_mem _ (List.mem_append_right _ h)) (by decide +kernel))
set_option maxRecDepth 20000 in
theorem gX6_isSound_X6_rideAgain : GoodIn wsX6_isSound (wsV RX6 213 RX6 yX6_rideAgain wsX6_rideAgain) := goodIn_app (goodIn_of _ (by decide +kernel)) ggX6_isSound_X6_rideAgain
set_option maxRecDepth 20000 in
theorem ggX6_isSound_X0_has : GoodIn wsX6_isSound wsX0_has := goodIn_r _ [80, 81, 91, 92] (by decide +kernel) (by decide +kernel)
set_option maxRecDepth 20000 in
theorem gX6_isSound_X0_has : GoodIn wsX6_isSound (wsV RX6 225 RX0 yX0_has wsX0_has) := goodIn_app (goodIn_of _ (by decide +kernel)) ggX6_isSound_X0_has
set_option maxRecDepth 20000 in
theorem ggX6_rideAgain_X6_trackNumbered : GoodIn wsX6_rideAgain wsX6_trackNumbered := goodIn_ca (goodIn_r _ [9, 10, 11, 12, 13, 62, 63, 64, 65, 66, 67, 68, 69, 70] (by decide +kernel) (by decide +kernel)) (goodIn_sub (fun _ h => List.mem_cons_of_mem _ (List.mem_append_right _ h)) (by decide +kernel))
set_option maxRecDepth 20000 in
theorem gX6_rideAgain_X6_trackNumbered : GoodIn wsX6_rideAgain (wsV RX6 59 RX6 yX6_trackNumbered wsX6_trackNumbered) := goodIn_app (goodIn_of _ (by decide +kernel)) ggX6_rideAgain_X6_trackNumbered
set_option maxRecDepth 20000 in
theorem ggX6_rideAgain_X6_carNumbered : GoodIn wsX6_rideAgain wsX6_carNumbered := goodIn_ca (goodIn_r _ [17, 10, 11, 18, 19, 62, 63, 64, 65, 66, 67, 68, 69, 70] (by decide +kernel) (by decide +kernel)) (goodIn_sub (fun _ h => List.mem_cons_of_mem _ (List.mem_append_right _ h)) (by decide +kernel))
set_option maxRecDepth 20000 in
theorem gX6_rideAgain_X6_carNumbered : GoodIn wsX6_rideAgain (wsV RX6 129 RX6 yX6_carNumbered wsX6_carNumbered) := goodIn_app (goodIn_of _ (by decide +kernel)) ggX6_rideAgain_X6_carNumbered
set_option maxRecDepth 20000 in
theorem ggX6_rideAgain_X3_follow : GoodIn wsX6_rideAgain wsX3_follow := goodIn_r _ [24, 25, 26, 27, 28, 29, 30, 31, 32, 23, 33, 34, 35, 36, 37, 38, 39, 40, 41, 42, 43, 44, 45, 46, 47, 48, 49, 50, 51, 52, 53, 54, 55, 56, 57, 58, 59, 60, 61, 84, 85, 86, 87, 88, 89, 90, 91, 92, 93, 94, 95, 96] (by decide +kernel) (by decide +kernel)
set_option maxRecDepth 20000 in
theorem gX6_rideAgain_X3_follow : GoodIn wsX6_rideAgain (wsV RX6 185 RX3 yX3_follow wsX3_follow) := goodIn_app (goodIn_of _ (by decide +kernel)) ggX6_rideAgain_X3_follow
set_option maxRecDepth 20000 in
theorem ggX6_lapNumbered_X0_has : GoodIn wsX6_lapNumbered wsX0_has := goodIn_r _ [9, 10, 20, 21] (by decide +kernel) (by decide +kernel)
set_option maxRecDepth 20000 in
theorem gX6_lapNumbered_X0_has : GoodIn wsX6_lapNumbered (wsV RX6 225 RX0 yX0_has wsX0_has) := goodIn_app (goodIn_of _ (by decide +kernel)) ggX6_lapNumbered_X0_has
end
section
set_option maxRecDepth 20000 in
theorem ggX7_isNoTrack_X7_in : GoodIn wsX7_isNoTrack wsX7_in := goodIn_r _ [5] (by decide +kernel) (by decide +kernel)
set_option maxRecDepth 20000 in
theorem gX7_isNoTrack_X7_in : GoodIn wsX7_isNoTrack (va_wsS RX7 79 yX7_in wsX7_in) := goodIn_app (goodIn_of _ (by decide +kernel)) ggX7_isNoTrack_X7_in
set_option maxRecDepth 20000 in
theorem ggX7_isNoCar_X7_in : GoodIn wsX7_isNoCar wsX7_in := goodIn_r _ [5] (by decide +kernel) (by decide +kernel)
set_option maxRecDepth 20000 in
theorem gX7_isNoCar_X7_in : GoodIn wsX7_isNoCar (va_wsS RX7 79 yX7_in wsX7_in) := goodIn_app (goodIn_of _ (by decide +kernel)) ggX7_isNoCar_X7_in
set_option maxRecDepth 20000 in
theorem ggX7_isNoLap_X7_in : GoodIn wsX7_isNoLap wsX7_in := goodIn_r _ [5] (by decide +kernel) (by decide +kernel)
set_option maxRecDepth 20000 in
theorem gX7_isNoLap_X7_in : GoodIn wsX7_isNoLap (va_wsS RX7 79 yX7_in wsX7_in) := goodIn_app (goodIn_of _ (by decide +kernel)) ggX7_isNoLap_X7_in
set_option maxRecDepth 20000 in
theorem ggX7_track_X7_fails : GoodIn wsX7_track wsX7_fails := goodIn_r _ [6, 7, 8, 9, 10, 11, 12, 13, 14, 15, 16, 17, 18, 19, 20, 21, 22, 23, 24, 25, 26, 27, 28, 29, 30, 31, 32, 33, 34, 35, 36, 37, 38, 39] (by decide +kernel) (by decide +kernel)
set_option maxRecDepth 20000 in
theorem gX7_track_X7_fails : GoodIn wsX7_track (wsV RX7 89 RX7 yX7_fails wsX7_fails) := goodIn_app (goodIn_of _ (by decide +kernel)) ggX7_track_X7_fails
set_option maxRecDepth 20000 in
theorem ggX7_stretch_X7_isNoTrack : GoodIn wsX7_stretch wsX7_isNoTrack := goodIn_r _ [10, 11, 12, 13, 9, 14, 24, 25, 26, 27, 28, 29, 30, 31, 32, 33, 34, 35, 36, 37, 38, 39, 40, 41, 42, 43, 44, 45, 46, 47, 48, 49, 50, 51, 52, 53, 54, 55] (by decide +kernel) (by decide +kernel)
set_option maxRecDepth 20000 in
theorem gX7_stretch_X7_isNoTrack : GoodIn wsX7_stretch (wsV RX7 93 RX7 yX7_isNoTrack wsX7_isNoTrack) := goodIn_app (goodIn_of _ (by decide +kernel)) ggX7_stretch_X7_isNoTrack
set_option maxRecDepth 20000 in
theorem ggX7_stretch_X7_in : GoodIn wsX7_stretch wsX7_in := goodIn_r _ [14] (by decide +kernel) (by decide +kernel)
set_option maxRecDepth 20000 in
theorem gX7_stretch_X7_in : GoodIn wsX7_stretch (va_wsS RX7 79 yX7_in wsX7_in) := goodIn_app (goodIn_of _ (by decide +kernel)) ggX7_stretch_X7_in
set_option maxRecDepth 20000 in
theorem ggX7_stretch_X7_fails : GoodIn wsX7_stretch wsX7_fails := goodIn_r _ [18, 19, 24, 25, 26, 27, 28, 29, 30, 31, 32, 33, 34, 35, 36, 37, 38, 39, 40, 41, 42, 43, 44, 45, 46, 47, 48, 49, 50, 51, 52, 53, 54, 55] (by decide +kernel) (by decide +kernel)
set_option maxRecDepth 20000 in
theorem gX7_stretch_X7_fails : GoodIn wsX7_stretch (wsV RX7 89 RX7 yX7_fails wsX7_fails) := goodIn_app (goodIn_of _ (by decide +kernel)) ggX7_stretch_X7_fails
set_option maxRecDepth 20000 in
theorem ggX7_stretch_X7_lengthNow : GoodIn wsX7_stretch wsX7_lengthNow := goodIn_r _ [23, 3, 4, 24, 25, 26, 27, 28, 29, 30, 31, 32, 33, 34, 35, 36, 37, 38, 39, 40, 41, 42, 43, 44, 45, 46, 47, 48, 49, 50, 51, 52, 53, 54, 55] (by decide +kernel) (by decide +kernel)
set_option maxRecDepth 20000 in
theorem gX7_stretch_X7_lengthNow : GoodIn wsX7_stretch (wsV RX7 96 RX7 yX7_lengthNow wsX7_lengthNow) := goodIn_app (goodIn_of _ (by decide +kernel)) ggX7_stretch_X7_lengthNow
set_option maxRecDepth 20000 in
theorem ggX7_car_X7_in : GoodIn wsX7_car wsX7_in := goodIn_r _ [8] (by decide +kernel) (by decide +kernel)
set_option maxRecDepth 20000 in
theorem gX7_car_X7_in : GoodIn wsX7_car (va_wsS RX7 79 yX7_in wsX7_in) := goodIn_app (goodIn_of _ (by decide +kernel)) ggX7_car_X7_in
set_option maxRecDepth 20000 in
theorem ggX7_car_X7_fails : GoodIn wsX7_car wsX7_fails := goodIn_r _ [12, 13, 14, 15, 16, 17, 18, 19, 20, 21, 22, 23, 24, 25, 26, 27, 28, 29, 30, 31, 32, 33, 34, 35, 36, 37, 38, 39, 40, 41, 42, 43, 44, 45] (by decide +kernel) (by decide +kernel)
set_option maxRecDepth 20000 in
theorem gX7_car_X7_fails : GoodIn wsX7_car (wsV RX7 89 RX7 yX7_fails wsX7_fails) := goodIn_app (goodIn_of _ (by decide +kernel)) ggX7_car_X7_fails
set_option maxRecDepth 20000 in
theorem ggX7_lengthOf_X7_isNoTrack : GoodIn wsX7_lengthOf wsX7_isNoTrack := goodIn_r _ [5, 6, 7, 8, 4, 9, 21, 22, 23, 24, 25, 26, 27, 28, 29, 30, 31, 32, 33, 34, 35, 36, 37, 38, 39, 40, 41, 42, 43, 44, 45, 46, 47, 48, 49, 50, 51, 52] (by decide +kernel) (by decide +kernel)
set_option maxRecDepth 20000 in
theorem gX7_lengthOf_X7_isNoTrack : GoodIn wsX7_lengthOf (wsV RX7 93 RX7 yX7_isNoTrack wsX7_isNoTrack) := goodIn_app (goodIn_of _ (by decide +kernel)) ggX7_lengthOf_X7_isNoTrack
set_option maxRecDepth 20000 in
theorem ggX7_lengthOf_X7_fails : GoodIn wsX7_lengthOf wsX7_fails := goodIn_r _ [13, 14, 21, 22, 23, 24, 25, 26, 27, 28, 29, 30, 31, 32, 33, 34, 35, 36, 37, 38, 39, 40, 41, 42, 43, 44, 45, 46, 47, 48, 49, 50, 51, 52] (by decide +kernel) (by decide +kernel)
set_option maxRecDepth 20000 in
theorem gX7_lengthOf_X7_fails : GoodIn wsX7_lengthOf (wsV RX7 89 RX7 yX7_fails wsX7_fails) := goodIn_app (goodIn_of _ (by decide +kernel)) ggX7_lengthOf_X7_fails
set_option maxRecDepth 20000 in
theorem ggX7_lengthOf_X7_lengthNow : GoodIn wsX7_lengthOf wsX7_lengthNow := goodIn_r _ [18, 19, 20, 21, 22, 23, 24, 25, 26, 27, 28, 29, 30, 31, 32, 33, 34, 35, 36, 37, 38, 39, 40, 41, 42, 43, 44, 45, 46, 47, 48, 49, 50, 51, 52] (by decide +kernel) (by decide +kernel)
set_option maxRecDepth 20000 in
theorem gX7_lengthOf_X7_lengthNow : GoodIn wsX7_lengthOf (wsV RX7 96 RX7 yX7_lengthNow wsX7_lengthNow) := goodIn_app (goodIn_of _ (by decide +kernel)) ggX7_lengthOf_X7_lengthNow
set_option maxRecDepth 20000 in
theorem ggX7_limitAt_X7_isNoTrack : GoodIn wsX7_limitAt wsX7_isNoTrack := goodIn_r _ [5, 6, 7, 8, 4, 9, 26, 27, 28, 29, 30, 31, 32, 33, 34, 35, 36, 37, 38, 39, 40, 41, 42, 43, 44, 45, 46, 47, 48, 49, 50, 51, 52, 53, 54, 55, 56, 57] (by decide +kernel) (by decide +kernel)
set_option maxRecDepth 20000 in
theorem gX7_limitAt_X7_isNoTrack : GoodIn wsX7_limitAt (wsV RX7 93 RX7 yX7_isNoTrack wsX7_isNoTrack) := goodIn_app (goodIn_of _ (by decide +kernel)) ggX7_limitAt_X7_isNoTrack
set_option maxRecDepth 20000 in
theorem ggX7_limitAt_X7_lengthNow : GoodIn wsX7_limitAt wsX7_lengthNow := goodIn_r _ [13, 14, 15, 26, 27, 28, 29, 30, 31, 32, 33, 34, 35, 36, 37, 38, 39, 40, 41, 42, 43, 44, 45, 46, 47, 48, 49, 50, 51, 52, 53, 54, 55, 56, 57] (by decide +kernel) (by decide +kernel)
set_option maxRecDepth 20000 in
theorem gX7_limitAt_X7_lengthNow : GoodIn wsX7_limitAt (wsV RX7 96 RX7 yX7_lengthNow wsX7_lengthNow) := goodIn_app (goodIn_of _ (by decide +kernel)) ggX7_limitAt_X7_lengthNow
set_option maxRecDepth 20000 in
theorem ggX7_limitAt_X7_in : GoodIn wsX7_limitAt wsX7_in := goodIn_r _ [9] (by decide +kernel) (by decide +kernel)
set_option maxRecDepth 20000 in
theorem gX7_limitAt_X7_in : GoodIn wsX7_limitAt (va_wsS RX7 79 yX7_in wsX7_in) := goodIn_app (goodIn_of _ (by decide +kernel)) ggX7_limitAt_X7_in
set_option maxRecDepth 20000 in
theorem ggX7_limitAt_X7_fails : GoodIn wsX7_limitAt wsX7_fails := goodIn_r _ [19, 20, 26, 27, 28, 29, 30, 31, 32, 33, 34, 35, 36, 37, 38, 39, 40, 41, 42, 43, 44, 45, 46, 47, 48, 49, 50, 51, 52, 53, 54, 55, 56, 57] (by decide +kernel) (by decide +kernel)
set_option maxRecDepth 20000 in
theorem gX7_limitAt_X7_fails : GoodIn wsX7_limitAt (wsV RX7 89 RX7 yX7_fails wsX7_fails) := goodIn_app (goodIn_of _ (by decide +kernel)) ggX7_limitAt_X7_fails
set_option maxRecDepth 20000 in
theorem ggX7_limitAt_X7_limitNow : GoodIn wsX7_limitAt wsX7_limitNow := goodIn_r _ [24, 15, 25, 26, 27, 28, 29, 30, 31, 32, 33, 34, 35, 36, 37, 38, 39, 40, 41, 42, 43, 44, 45, 46, 47, 48, 49, 50, 51, 52, 53, 54, 55, 56, 57] (by decide +kernel) (by decide +kernel)
set_option maxRecDepth 20000 in
theorem gX7_limitAt_X7_limitNow : GoodIn wsX7_limitAt (wsV RX7 100 RX7 yX7_limitNow wsX7_limitNow) := goodIn_app (goodIn_of _ (by decide +kernel)) ggX7_limitAt_X7_limitNow
set_option maxRecDepth 20000 in
theorem ggX7_type_X7_in : GoodIn wsX7_type wsX7_in := goodIn_r _ [6] (by decide +kernel) (by decide +kernel)
set_option maxRecDepth 20000 in
theorem gX7_type_X7_in : GoodIn wsX7_type (va_wsS RX7 79 yX7_in wsX7_in) := goodIn_app (goodIn_of _ (by decide +kernel)) ggX7_type_X7_in
set_option maxRecDepth 20000 in
theorem ggX7_type_X7_fails : GoodIn wsX7_type wsX7_fails := goodIn_r _ [10, 11, 12, 13, 14, 15, 16, 17, 18, 19, 20, 21, 22, 23, 24, 25, 26, 27, 28, 29, 30, 31, 32, 33, 34, 35, 36, 37, 38, 39, 40, 41, 42, 43] (by decide +kernel) (by decide +kernel)
set_option maxRecDepth 20000 in
theorem gX7_type_X7_fails : GoodIn wsX7_type (wsV RX7 89 RX7 yX7_fails wsX7_fails) := goodIn_app (goodIn_of _ (by decide +kernel)) ggX7_type_X7_fails
set_option maxRecDepth 20000 in
theorem ggX7_goes_X7_lengthNow : GoodIn wsX7_goes wsX7_lengthNow := goodIn_r _ [12, 13, 14, 20, 21, 22, 23, 24, 25, 26, 27, 28, 29, 30, 31, 32, 33, 34, 35, 36, 37, 38, 39, 40, 41, 42, 43, 44, 45, 46, 47, 48, 49, 50, 51] (by decide +kernel) (by decide +kernel)
set_option maxRecDepth 20000 in
theorem gX7_goes_X7_lengthNow : GoodIn wsX7_goes (wsV RX7 96 RX7 yX7_lengthNow wsX7_lengthNow) := goodIn_app (goodIn_of _ (by decide +kernel)) ggX7_goes_X7_lengthNow
set_option maxRecDepth 20000 in
theorem ggX7_goes_X7_limitNow : GoodIn wsX7_goes wsX7_limitNow := goodIn_r _ [18, 14, 19, 20, 21, 22, 23, 24, 25, 26, 27, 28, 29, 30, 31, 32, 33, 34, 35, 36, 37, 38, 39, 40, 41, 42, 43, 44, 45, 46, 47, 48, 49, 50, 51] (by decide +kernel) (by decide +kernel)
set_option maxRecDepth 20000 in
theorem gX7_goes_X7_limitNow : GoodIn wsX7_goes (wsV RX7 100 RX7 yX7_limitNow wsX7_limitNow) := goodIn_app (goodIn_of _ (by decide +kernel)) ggX7_goes_X7_limitNow
set_option maxRecDepth 20000 in
theorem ggX7_drives_X7_starts : GoodIn wsX7_drives wsX7_starts := goodIn_r _ [9, 10, 11, 1, 3, 30, 31, 32, 33, 34, 35, 36, 37, 38, 39, 40, 41, 42, 43, 44, 45, 46, 47, 48, 49, 50, 51, 52, 53, 54, 55, 56, 57, 58, 59, 60, 61] (by decide +kernel) (by decide +kernel)
set_option maxRecDepth 20000 in
theorem gX7_drives_X7_starts : GoodIn wsX7_drives (wsV RX7 120 RX7 yX7_starts wsX7_starts) := goodIn_app (goodIn_of _ (by decide +kernel)) ggX7_drives_X7_starts
set_option maxRecDepth 20000 in
theorem ggX7_drives_X7_goes : GoodIn wsX7_drives wsX7_goes := goodIn_r _ [15, 11, 16, 17, 10, 1, 3, 18, 19, 20, 21, 8, 22, 23, 24, 25, 26, 27, 28, 29, 30, 31, 32, 33, 34, 35, 36, 37, 38, 39, 40, 41, 42, 43, 44, 45, 46, 47, 48, 49, 50, 51, 52, 53, 54, 55, 56, 57, 58, 59, 60, 61] (by decide +kernel) (by decide +kernel)
set_option maxRecDepth 20000 in
theorem gX7_drives_X7_goes : GoodIn wsX7_drives (wsV RX7 123 RX7 yX7_goes wsX7_goes) := goodIn_app (goodIn_of _ (by decide +kernel)) ggX7_drives_X7_goes
set_option maxRecDepth 20000 in
theorem ggX7_timeNow_X7_lengthNow : GoodIn wsX7_timeNow wsX7_lengthNow := goodIn_r _ [8, 9, 10, 11, 12, 13, 14, 15, 16, 17, 18, 19, 20, 21, 22, 23, 24, 25, 26, 27, 28, 29, 30, 31, 32, 33, 34, 35, 36, 37, 38, 39, 40, 41, 42] (by decide +kernel) (by decide +kernel)
set_option maxRecDepth 20000 in
theorem gX7_timeNow_X7_lengthNow : GoodIn wsX7_timeNow (wsV RX7 96 RX7 yX7_lengthNow wsX7_lengthNow) := goodIn_app (goodIn_of _ (by decide +kernel)) ggX7_timeNow_X7_lengthNow
set_option maxRecDepth 20000 in
theorem ggX7_canDrive_X7_drives : GoodIn wsX7_canDrive wsX7_drives := goodIn_r _ [7, 8, 9, 2, 10, 11, 12, 13, 6, 14, 15, 16, 17, 18, 19, 20, 21, 22, 23, 24, 25, 26, 27, 1, 28, 29, 30, 31, 32, 33, 34, 35, 36, 37, 38, 39, 40, 41, 42, 43, 44, 45, 46, 47, 48, 49, 50, 51, 52, 53, 54, 55, 56, 57, 58, 59, 60, 61, 62, 63, 64, 65] (by decide +kernel) (by decide +kernel)
set_option maxRecDepth 20000 in
theorem gX7_canDrive_X7_drives : GoodIn wsX7_canDrive (wsV RX7 127 RX7 yX7_drives wsX7_drives) := goodIn_app (goodIn_of _ (by decide +kernel)) ggX7_canDrive_X7_drives
set_option maxRecDepth 20000 in
theorem ggX7_isGhost_X7_isNoLap : GoodIn wsX7_isGhost wsX7_isNoLap := goodIn_r _ [7, 8, 9, 10, 6, 11, 12, 13, 14, 15, 16, 17, 18, 19, 20, 21, 22, 23, 24, 25, 26, 27, 28, 29, 30, 31, 32, 33, 34, 35, 36, 37, 38, 39, 40, 41, 42, 43] (by decide +kernel) (by decide +kernel)
set_option maxRecDepth 20000 in
theorem gX7_isGhost_X7_isNoLap : GoodIn wsX7_isGhost (wsV RX7 131 RX7 yX7_isNoLap wsX7_isNoLap) := goodIn_app (goodIn_of _ (by decide +kernel)) ggX7_isGhost_X7_isNoLap
set_option maxRecDepth 20000 in
theorem ggX7_drive_X7_in : GoodIn wsX7_drive wsX7_in := goodIn_r _ [20] (by decide +kernel) (by decide +kernel)
set_option maxRecDepth 20000 in
theorem gX7_drive_X7_in : GoodIn wsX7_drive (va_wsS RX7 79 yX7_in wsX7_in) := goodIn_app (goodIn_of _ (by decide +kernel)) ggX7_drive_X7_in
set_option maxRecDepth 20000 in
theorem ggX7_drive_X7_isNoTrack : GoodIn wsX7_drive wsX7_isNoTrack := goodIn_r _ [24, 25, 17, 18, 19, 20, 86, 87, 88, 89, 90, 91, 92, 93, 94, 95, 96, 97, 98, 99, 100, 101, 102, 103, 104, 105, 106, 107, 108, 109, 110, 111, 112, 113, 114, 115, 116, 117] (by decide +kernel) (by decide +kernel)
set_option maxRecDepth 20000 in
theorem gX7_drive_X7_isNoTrack : GoodIn wsX7_drive (wsV RX7 93 RX7 yX7_isNoTrack wsX7_isNoTrack) := goodIn_app (goodIn_of _ (by decide +kernel)) ggX7_drive_X7_isNoTrack
set_option maxRecDepth 20000 in
theorem ggX7_drive_X7_isNoCar : GoodIn wsX7_drive wsX7_isNoCar := goodIn_r _ [29, 30, 17, 18, 19, 20, 86, 87, 88, 89, 90, 91, 92, 93, 94, 95, 96, 97, 98, 99, 100, 101, 102, 103, 104, 105, 106, 107, 108, 109, 110, 111, 112, 113, 114, 115, 116, 117] (by decide +kernel) (by decide +kernel)
set_option maxRecDepth 20000 in
theorem gX7_drive_X7_isNoCar : GoodIn wsX7_drive (wsV RX7 134 RX7 yX7_isNoCar wsX7_isNoCar) := goodIn_app (goodIn_of _ (by decide +kernel)) ggX7_drive_X7_isNoCar
set_option maxRecDepth 20000 in
theorem ggX7_drive_X7_isGhost : GoodIn wsX7_drive wsX7_isGhost := goodIn_r _ [34, 8, 35, 36, 37, 38, 19, 39, 1, 17, 18, 20, 86, 87, 88, 89, 90, 91, 92, 93, 94, 95, 96, 97, 98, 99, 100, 101, 102, 103, 104, 105, 106, 107, 108, 109, 110, 111, 112, 113, 114, 115, 116, 117] (by decide +kernel) (by decide +kernel)
set_option maxRecDepth 20000 in
theorem gX7_drive_X7_isGhost : GoodIn wsX7_drive (wsV RX7 137 RX7 yX7_isGhost wsX7_isGhost) := goodIn_app (goodIn_of _ (by decide +kernel)) ggX7_drive_X7_isGhost
set_option maxRecDepth 20000 in
theorem ggX7_drive_X7_canDrive : GoodIn wsX7_drive wsX7_canDrive := goodIn_r _ [43, 44, 45, 46, 47, 48, 19, 49, 3, 16, 6, 50, 51, 52, 53, 54, 55, 56, 57, 58, 59, 60, 61, 62, 63, 64, 65, 66, 67, 68, 69, 70, 71, 72, 86, 87, 88, 89, 90, 91, 92, 93, 94, 95, 96, 97, 98, 99, 100, 101, 102, 103, 104, 105, 106, 107, 108, 109, 110, 111, 112, 113, 114, 115, 116, 117] (by decide +kernel) (by decide +kernel)
set_option maxRecDepth 20000 in
theorem gX7_drive_X7_canDrive : GoodIn wsX7_drive (wsV RX7 141 RX7 yX7_canDrive wsX7_canDrive) := goodIn_app (goodIn_of _ (by decide +kernel)) ggX7_drive_X7_canDrive
set_option maxRecDepth 20000 in
theorem ggX7_drive_X7_fails : GoodIn wsX7_drive wsX7_fails := goodIn_r _ [76, 77, 86, 87, 88, 89, 90, 91, 92, 93, 94, 95, 96, 97, 98, 99, 100, 101, 102, 103, 104, 105, 106, 107, 108, 109, 110, 111, 112, 113, 114, 115, 116, 117] (by decide +kernel) (by decide +kernel)
set_option maxRecDepth 20000 in
theorem gX7_drive_X7_fails : GoodIn wsX7_drive (wsV RX7 89 RX7 yX7_fails wsX7_fails) := goodIn_app (goodIn_of _ (by decide +kernel)) ggX7_drive_X7_fails
set_option maxRecDepth 20000 in
theorem ggX7_drive_X7_timeNow : GoodIn wsX7_drive wsX7_timeNow := goodIn_r _ [81, 3, 54, 55, 63, 64, 65, 19, 66, 44, 67, 86, 87, 88, 89, 90, 91, 92, 93, 94, 95, 96, 97, 98, 99, 100, 101, 102, 103, 104, 105, 106, 107, 108, 109, 110, 111, 112, 113, 114, 115, 116, 117] (by decide +kernel) (by decide +kernel)
set_option maxRecDepth 20000 in
theorem gX7_drive_X7_timeNow : GoodIn wsX7_drive (wsV RX7 144 RX7 yX7_timeNow wsX7_timeNow) := goodIn_app (goodIn_of _ (by decide +kernel)) ggX7_drive_X7_timeNow
set_option maxRecDepth 20000 in
theorem ggX7_drive_X7_depthOf : GoodIn wsX7_drive wsX7_depthOf := goodIn_r _ [85, 15, 86, 87, 88, 89, 90, 91, 92, 93, 94, 95, 96, 97, 98, 99, 100, 101, 102, 103, 104, 105, 106, 107, 108, 109, 110, 111, 112, 113, 114, 115, 116, 117] (by decide +kernel) (by decide +kernel)
set_option maxRecDepth 20000 in
theorem gX7_drive_X7_depthOf : GoodIn wsX7_drive (wsV RX7 153 RX7 yX7_depthOf wsX7_depthOf) := goodIn_app (goodIn_of _ (by decide +kernel)) ggX7_drive_X7_depthOf
set_option maxRecDepth 20000 in
theorem ggX7_tryOut_X7_isNoTrack : GoodIn wsX7_tryOut wsX7_isNoTrack := goodIn_r _ [5, 6, 7, 8, 4, 9, 60, 61, 62, 63, 64, 65, 66, 67, 68, 69, 70, 71, 72, 73, 74, 75, 76, 77, 78, 79, 80, 81, 82, 83, 84, 85, 86, 87, 88, 89, 90, 91] (by decide +kernel) (by decide +kernel)
set_option maxRecDepth 20000 in
theorem gX7_tryOut_X7_isNoTrack : GoodIn wsX7_tryOut (wsV RX7 93 RX7 yX7_isNoTrack wsX7_isNoTrack) := goodIn_app (goodIn_of _ (by decide +kernel)) ggX7_tryOut_X7_isNoTrack
set_option maxRecDepth 20000 in
theorem ggX7_tryOut_X7_isNoCar : GoodIn wsX7_tryOut wsX7_isNoCar := goodIn_r _ [13, 14, 7, 8, 4, 9, 60, 61, 62, 63, 64, 65, 66, 67, 68, 69, 70, 71, 72, 73, 74, 75, 76, 77, 78, 79, 80, 81, 82, 83, 84, 85, 86, 87, 88, 89, 90, 91] (by decide +kernel) (by decide +kernel)
set_option maxRecDepth 20000 in
theorem gX7_tryOut_X7_isNoCar : GoodIn wsX7_tryOut (wsV RX7 134 RX7 yX7_isNoCar wsX7_isNoCar) := goodIn_app (goodIn_of _ (by decide +kernel)) ggX7_tryOut_X7_isNoCar
set_option maxRecDepth 20000 in
theorem ggX7_tryOut_X7_canDrive : GoodIn wsX7_tryOut wsX7_canDrive := goodIn_r _ [18, 19, 20, 21, 22, 23, 4, 24, 25, 26, 27, 28, 29, 30, 31, 32, 33, 34, 35, 36, 37, 38, 39, 40, 41, 42, 43, 44, 45, 46, 47, 48, 49, 50, 60, 61, 62, 63, 64, 65, 66, 67, 68, 69, 70, 71, 72, 73, 74, 75, 76, 77, 78, 79, 80, 81, 82, 83, 84, 85, 86, 87, 88, 89, 90, 91] (by decide +kernel) (by decide +kernel)
set_option maxRecDepth 20000 in
theorem gX7_tryOut_X7_canDrive : GoodIn wsX7_tryOut (wsV RX7 141 RX7 yX7_canDrive wsX7_canDrive) := goodIn_app (goodIn_of _ (by decide +kernel)) ggX7_tryOut_X7_canDrive
set_option maxRecDepth 20000 in
theorem ggX7_tryOut_X7_fails : GoodIn wsX7_tryOut wsX7_fails := goodIn_r _ [54, 55, 60, 61, 62, 63, 64, 65, 66, 67, 68, 69, 70, 71, 72, 73, 74, 75, 76, 77, 78, 79, 80, 81, 82, 83, 84, 85, 86, 87, 88, 89, 90, 91] (by decide +kernel) (by decide +kernel)
set_option maxRecDepth 20000 in
theorem gX7_tryOut_X7_fails : GoodIn wsX7_tryOut (wsV RX7 89 RX7 yX7_fails wsX7_fails) := goodIn_app (goodIn_of _ (by decide +kernel)) ggX7_tryOut_X7_fails
set_option maxRecDepth 20000 in
theorem ggX7_tryOut_X7_timeNow : GoodIn wsX7_tryOut wsX7_timeNow := goodIn_r _ [59, 25, 32, 33, 41, 42, 43, 4, 44, 19, 45, 60, 61, 62, 63, 64, 65, 66, 67, 68, 69, 70, 71, 72, 73, 74, 75, 76, 77, 78, 79, 80, 81, 82, 83, 84, 85, 86, 87, 88, 89, 90, 91] (by decide +kernel) (by decide +kernel)
set_option maxRecDepth 20000 in
theorem gX7_tryOut_X7_timeNow : GoodIn wsX7_tryOut (wsV RX7 144 RX7 yX7_timeNow wsX7_timeNow) := goodIn_app (goodIn_of _ (by decide +kernel)) ggX7_tryOut_X7_timeNow
set_option maxRecDepth 20000 in
theorem ggX7_time_X7_isNoLap : GoodIn wsX7_time wsX7_isNoLap := goodIn_r _ [6, 7, 8, 9, 5, 10, 21, 22, 23, 24, 25, 26, 27, 28, 29, 30, 31, 32, 33, 34, 35, 36, 37, 38, 39, 40, 41, 42, 43, 44, 45, 46, 47, 48, 49, 50, 51, 52] (by decide +kernel) (by decide +kernel)
set_option maxRecDepth 20000 in
theorem gX7_time_X7_isNoLap : GoodIn wsX7_time (wsV RX7 131 RX7 yX7_isNoLap wsX7_isNoLap) := goodIn_app (goodIn_of _ (by decide +kernel)) ggX7_time_X7_isNoLap
set_option maxRecDepth 20000 in
theorem ggX7_time_X7_fails : GoodIn wsX7_time wsX7_fails := goodIn_r _ [14, 15, 21, 22, 23, 24, 25, 26, 27, 28, 29, 30, 31, 32, 33, 34, 35, 36, 37, 38, 39, 40, 41, 42, 43, 44, 45, 46, 47, 48, 49, 50, 51, 52] (by decide +kernel) (by decide +kernel)
set_option maxRecDepth 20000 in
theorem gX7_time_X7_fails : GoodIn wsX7_time (wsV RX7 89 RX7 yX7_fails wsX7_fails) := goodIn_app (goodIn_of _ (by decide +kernel)) ggX7_time_X7_fails
set_option maxRecDepth 20000 in
theorem ggX7_time_X7_countOf : GoodIn wsX7_time wsX7_countOf := goodIn_r _ [19, 1, 20, 21, 22, 23, 24, 25, 26, 27, 28, 29, 30, 31, 32, 33, 34, 35, 36, 37, 38, 39, 40, 41, 42, 43, 44, 45, 46, 47, 48, 49, 50, 51, 52] (by decide +kernel) (by decide +kernel)
set_option maxRecDepth 20000 in
theorem gX7_time_X7_countOf : GoodIn wsX7_time (wsV RX7 156 RX7 yX7_countOf wsX7_countOf) := goodIn_app (goodIn_of _ (by decide +kernel)) ggX7_time_X7_countOf
set_option maxRecDepth 20000 in
theorem ggX7_ticks_X7_isNoLap : GoodIn wsX7_ticks wsX7_isNoLap := goodIn_r _ [6, 7, 8, 9, 5, 10, 16, 17, 18, 19, 20, 21, 22, 23, 24, 25, 26, 27, 28, 29, 30, 31, 32, 33, 34, 35, 36, 37, 38, 39, 40, 41, 42, 43, 44, 45, 46, 47] (by decide +kernel) (by decide +kernel)
set_option maxRecDepth 20000 in
theorem gX7_ticks_X7_isNoLap : GoodIn wsX7_ticks (wsV RX7 131 RX7 yX7_isNoLap wsX7_isNoLap) := goodIn_app (goodIn_of _ (by decide +kernel)) ggX7_ticks_X7_isNoLap
set_option maxRecDepth 20000 in
theorem ggX7_ticks_X7_fails : GoodIn wsX7_ticks wsX7_fails := goodIn_r _ [14, 15, 16, 17, 18, 19, 20, 21, 22, 23, 24, 25, 26, 27, 28, 29, 30, 31, 32, 33, 34, 35, 36, 37, 38, 39, 40, 41, 42, 43, 44, 45, 46, 47] (by decide +kernel) (by decide +kernel)
set_option maxRecDepth 20000 in
theorem gX7_ticks_X7_fails : GoodIn wsX7_ticks (wsV RX7 89 RX7 yX7_fails wsX7_fails) := goodIn_app (goodIn_of _ (by decide +kernel)) ggX7_ticks_X7_fails
set_option maxRecDepth 20000 in
theorem ggX7_inputAt_X7_isNoLap : GoodIn wsX7_inputAt wsX7_isNoLap := goodIn_r _ [7, 8, 9, 10, 6, 11, 17, 18, 19, 20, 21, 22, 23, 24, 25, 26, 27, 28, 29, 30, 31, 32, 33, 34, 35, 36, 37, 38, 39, 40, 41, 42, 43, 44, 45, 46, 47, 48] (by decide +kernel) (by decide +kernel)
set_option maxRecDepth 20000 in
theorem gX7_inputAt_X7_isNoLap : GoodIn wsX7_inputAt (wsV RX7 131 RX7 yX7_isNoLap wsX7_isNoLap) := goodIn_app (goodIn_of _ (by decide +kernel)) ggX7_inputAt_X7_isNoLap
set_option maxRecDepth 20000 in
theorem ggX7_inputAt_X7_in : GoodIn wsX7_inputAt wsX7_in := goodIn_r _ [11] (by decide +kernel) (by decide +kernel)
set_option maxRecDepth 20000 in
theorem gX7_inputAt_X7_in : GoodIn wsX7_inputAt (va_wsS RX7 79 yX7_in wsX7_in) := goodIn_app (goodIn_of _ (by decide +kernel)) ggX7_inputAt_X7_in
set_option maxRecDepth 20000 in
theorem ggX7_inputAt_X7_fails : GoodIn wsX7_inputAt wsX7_fails := goodIn_r _ [15, 16, 17, 18, 19, 20, 21, 22, 23, 24, 25, 26, 27, 28, 29, 30, 31, 32, 33, 34, 35, 36, 37, 38, 39, 40, 41, 42, 43, 44, 45, 46, 47, 48] (by decide +kernel) (by decide +kernel)
set_option maxRecDepth 20000 in
theorem gX7_inputAt_X7_fails : GoodIn wsX7_inputAt (wsV RX7 89 RX7 yX7_fails wsX7_fails) := goodIn_app (goodIn_of _ (by decide +kernel)) ggX7_inputAt_X7_fails
set_option maxRecDepth 20000 in
theorem ggX7_replay_X7_isNoLap : GoodIn wsX7_replay wsX7_isNoLap := goodIn_r _ [12, 13, 14, 15, 11, 16, 45, 46, 47, 48, 49, 50, 51, 52, 53, 54, 55, 56, 57, 58, 59, 60, 61, 62, 63, 64, 65, 66, 67, 68, 69, 70, 71, 72, 73, 74, 75, 76] (by decide +kernel) (by decide +kernel)
set_option maxRecDepth 20000 in
theorem gX7_replay_X7_isNoLap : GoodIn wsX7_replay (wsV RX7 131 RX7 yX7_isNoLap wsX7_isNoLap) := goodIn_app (goodIn_of _ (by decide +kernel)) ggX7_replay_X7_isNoLap
set_option maxRecDepth 20000 in
theorem ggX7_replay_X7_in : GoodIn wsX7_replay wsX7_in := goodIn_r _ [16] (by decide +kernel) (by decide +kernel)
set_option maxRecDepth 20000 in
theorem gX7_replay_X7_in : GoodIn wsX7_replay (va_wsS RX7 79 yX7_in wsX7_in) := goodIn_app (goodIn_of _ (by decide +kernel)) ggX7_replay_X7_in
set_option maxRecDepth 20000 in
theorem ggX7_replay_X7_fails : GoodIn wsX7_replay wsX7_fails := goodIn_r _ [20, 21, 45, 46, 47, 48, 49, 50, 51, 52, 53, 54, 55, 56, 57, 58, 59, 60, 61, 62, 63, 64, 65, 66, 67, 68, 69, 70, 71, 72, 73, 74, 75, 76] (by decide +kernel) (by decide +kernel)
set_option maxRecDepth 20000 in
theorem gX7_replay_X7_fails : GoodIn wsX7_replay (wsV RX7 89 RX7 yX7_fails wsX7_fails) := goodIn_app (goodIn_of _ (by decide +kernel)) ggX7_replay_X7_fails
set_option maxRecDepth 20000 in
theorem ggX7_replay_X7_starts : GoodIn wsX7_replay wsX7_starts := goodIn_r _ [25, 7, 6, 2, 26, 45, 46, 47, 48, 49, 50, 51, 52, 53, 54, 55, 56, 57, 58, 59, 60, 61, 62, 63, 64, 65, 66, 67, 68, 69, 70, 71, 72, 73, 74, 75, 76] (by decide +kernel) (by decide +kernel)
set_option maxRecDepth 20000 in
theorem gX7_replay_X7_starts : GoodIn wsX7_replay (wsV RX7 120 RX7 yX7_starts wsX7_starts) := goodIn_app (goodIn_of _ (by decide +kernel)) ggX7_replay_X7_starts
set_option maxRecDepth 20000 in
theorem ggX7_replay_X7_goes : GoodIn wsX7_replay wsX7_goes := goodIn_r _ [30, 6, 31, 32, 7, 2, 26, 33, 34, 35, 36, 11, 37, 38, 39, 40, 41, 42, 43, 44, 45, 46, 47, 48, 49, 50, 51, 52, 53, 54, 55, 56, 57, 58, 59, 60, 61, 62, 63, 64, 65, 66, 67, 68, 69, 70, 71, 72, 73, 74, 75, 76] (by decide +kernel) (by decide +kernel)
set_option maxRecDepth 20000 in
theorem gX7_replay_X7_goes : GoodIn wsX7_replay (wsV RX7 123 RX7 yX7_goes wsX7_goes) := goodIn_app (goodIn_of _ (by decide +kernel)) ggX7_replay_X7_goes
set_option maxRecDepth 20000 in
theorem ggX7_of_X7_isNoLap : GoodIn wsX7_of wsX7_isNoLap := goodIn_r _ [10, 11, 12, 13, 9, 14, 20, 21, 22, 23, 24, 25, 26, 27, 28, 29, 30, 31, 32, 33, 34, 35, 36, 37, 38, 39, 40, 41, 42, 43, 44, 45, 46, 47, 48, 49, 50, 51] (by decide +kernel) (by decide +kernel)
set_option maxRecDepth 20000 in
theorem gX7_of_X7_isNoLap : GoodIn wsX7_of (wsV RX7 131 RX7 yX7_isNoLap wsX7_isNoLap) := goodIn_app (goodIn_of _ (by decide +kernel)) ggX7_of_X7_isNoLap
set_option maxRecDepth 20000 in
theorem ggX7_of_X7_fails : GoodIn wsX7_of wsX7_fails := goodIn_r _ [18, 19, 20, 21, 22, 23, 24, 25, 26, 27, 28, 29, 30, 31, 32, 33, 34, 35, 36, 37, 38, 39, 40, 41, 42, 43, 44, 45, 46, 47, 48, 49, 50, 51] (by decide +kernel) (by decide +kernel)
set_option maxRecDepth 20000 in
theorem gX7_of_X7_fails : GoodIn wsX7_of (wsV RX7 89 RX7 yX7_fails wsX7_fails) := goodIn_app (goodIn_of _ (by decide +kernel)) ggX7_of_X7_fails
set_option maxRecDepth 20000 in
theorem ggX7_beats_X7_isNoLap : GoodIn wsX7_beats wsX7_isNoLap := goodIn_r _ [6, 7, 8, 9, 5, 10, 22, 23, 24, 25, 26, 27, 28, 29, 30, 31, 32, 33, 34, 35, 36, 37, 38, 39, 40, 41, 42, 43, 44, 45, 46, 47, 48, 49, 50, 51, 52, 53] (by decide +kernel) (by decide +kernel)
set_option maxRecDepth 20000 in
theorem gX7_beats_X7_isNoLap : GoodIn wsX7_beats (wsV RX7 131 RX7 yX7_isNoLap wsX7_isNoLap) := goodIn_app (goodIn_of _ (by decide +kernel)) ggX7_beats_X7_isNoLap
set_option maxRecDepth 20000 in
theorem ggX7_beats_X7_fails : GoodIn wsX7_beats wsX7_fails := goodIn_r _ [14, 15, 22, 23, 24, 25, 26, 27, 28, 29, 30, 31, 32, 33, 34, 35, 36, 37, 38, 39, 40, 41, 42, 43, 44, 45, 46, 47, 48, 49, 50, 51, 52, 53] (by decide +kernel) (by decide +kernel)
set_option maxRecDepth 20000 in
theorem gX7_beats_X7_fails : GoodIn wsX7_beats (wsV RX7 89 RX7 yX7_fails wsX7_fails) := goodIn_app (goodIn_of _ (by decide +kernel)) ggX7_beats_X7_fails
set_option maxRecDepth 20000 in
theorem ggX7_beats_X7_countOf : GoodIn wsX7_beats wsX7_countOf := goodIn_r _ [19, 20, 21, 22, 23, 24, 25, 26, 27, 28, 29, 30, 31, 32, 33, 34, 35, 36, 37, 38, 39, 40, 41, 42, 43, 44, 45, 46, 47, 48, 49, 50, 51, 52, 53] (by decide +kernel) (by decide +kernel)
set_option maxRecDepth 20000 in
theorem gX7_beats_X7_countOf : GoodIn wsX7_beats (wsV RX7 156 RX7 yX7_countOf wsX7_countOf) := goodIn_app (goodIn_of _ (by decide +kernel)) ggX7_beats_X7_countOf
set_option maxRecDepth 20000 in
theorem ggX7_least_X7_countOf : GoodIn wsX7_least wsX7_countOf := goodIn_r _ [8, 9, 10, 24, 25, 26, 27, 28, 29, 30, 31, 32, 33, 34, 35, 36, 37, 38, 39, 40, 41, 42, 43, 44, 45, 46, 47, 48, 49, 50, 51, 52, 53, 54, 55] (by decide +kernel) (by decide +kernel)
set_option maxRecDepth 20000 in
theorem gX7_least_X7_countOf : GoodIn wsX7_least (wsV RX7 156 RX7 yX7_countOf wsX7_countOf) := goodIn_app (goodIn_of _ (by decide +kernel)) ggX7_least_X7_countOf
set_option maxRecDepth 20000 in
theorem ggX7_least_X7_isNoTrack : GoodIn wsX7_least wsX7_isNoTrack := goodIn_r _ [14, 15, 16, 17, 7, 18, 24, 25, 26, 27, 28, 29, 30, 31, 32, 33, 34, 35, 36, 37, 38, 39, 40, 41, 42, 43, 44, 45, 46, 47, 48, 49, 50, 51, 52, 53, 54, 55] (by decide +kernel) (by decide +kernel)
set_option maxRecDepth 20000 in
theorem gX7_least_X7_isNoTrack : GoodIn wsX7_least (wsV RX7 93 RX7 yX7_isNoTrack wsX7_isNoTrack) := goodIn_app (goodIn_of _ (by decide +kernel)) ggX7_least_X7_isNoTrack
set_option maxRecDepth 20000 in
theorem ggX7_least_X7_fails : GoodIn wsX7_least wsX7_fails := goodIn_r _ [22, 23, 24, 25, 26, 27, 28, 29, 30, 31, 32, 33, 34, 35, 36, 37, 38, 39, 40, 41, 42, 43, 44, 45, 46, 47, 48, 49, 50, 51, 52, 53, 54, 55] (by decide +kernel) (by decide +kernel)
set_option maxRecDepth 20000 in
theorem gX7_least_X7_fails : GoodIn wsX7_least (wsV RX7 89 RX7 yX7_fails wsX7_fails) := goodIn_app (goodIn_of _ (by decide +kernel)) ggX7_least_X7_fails
set_option maxRecDepth 20000 in
theorem ggX7_base_X7_isNoLap : GoodIn wsX7_base wsX7_isNoLap := goodIn_r _ [6, 7, 8, 9, 5, 10, 16, 17, 18, 19, 20, 21, 22, 23, 24, 25, 26, 27, 28, 29, 30, 31, 32, 33, 34, 35, 36, 37, 38, 39, 40, 41, 42, 43, 44, 45, 46, 47] (by decide +kernel) (by decide +kernel)
set_option maxRecDepth 20000 in
theorem gX7_base_X7_isNoLap : GoodIn wsX7_base (wsV RX7 131 RX7 yX7_isNoLap wsX7_isNoLap) := goodIn_app (goodIn_of _ (by decide +kernel)) ggX7_base_X7_isNoLap
set_option maxRecDepth 20000 in
theorem ggX7_base_X7_fails : GoodIn wsX7_base wsX7_fails := goodIn_r _ [14, 15, 16, 17, 18, 19, 20, 21, 22, 23, 24, 25, 26, 27, 28, 29, 30, 31, 32, 33, 34, 35, 36, 37, 38, 39, 40, 41, 42, 43, 44, 45, 46, 47] (by decide +kernel) (by decide +kernel)
set_option maxRecDepth 20000 in
theorem gX7_base_X7_fails : GoodIn wsX7_base (wsV RX7 89 RX7 yX7_fails wsX7_fails) := goodIn_app (goodIn_of _ (by decide +kernel)) ggX7_base_X7_fails
set_option maxRecDepth 20000 in
theorem ggX7_depth_X7_isNoLap : GoodIn wsX7_depth wsX7_isNoLap := goodIn_r _ [5, 6, 7, 8, 4, 9, 20, 21, 22, 23, 24, 25, 26, 27, 28, 29, 30, 31, 32, 33, 34, 35, 36, 37, 38, 39, 40, 41, 42, 43, 44, 45, 46, 47, 48, 49, 50, 51] (by decide +kernel) (by decide +kernel)
set_option maxRecDepth 20000 in
theorem gX7_depth_X7_isNoLap : GoodIn wsX7_depth (wsV RX7 131 RX7 yX7_isNoLap wsX7_isNoLap) := goodIn_app (goodIn_of _ (by decide +kernel)) ggX7_depth_X7_isNoLap
set_option maxRecDepth 20000 in
theorem ggX7_depth_X7_fails : GoodIn wsX7_depth wsX7_fails := goodIn_r _ [13, 14, 20, 21, 22, 23, 24, 25, 26, 27, 28, 29, 30, 31, 32, 33, 34, 35, 36, 37, 38, 39, 40, 41, 42, 43, 44, 45, 46, 47, 48, 49, 50, 51] (by decide +kernel) (by decide +kernel)
set_option maxRecDepth 20000 in
theorem gX7_depth_X7_fails : GoodIn wsX7_depth (wsV RX7 89 RX7 yX7_fails wsX7_fails) := goodIn_app (goodIn_of _ (by decide +kernel)) ggX7_depth_X7_fails
set_option maxRecDepth 20000 in
theorem ggX7_depth_X7_depthOf : GoodIn wsX7_depth wsX7_depthOf := goodIn_r _ [18, 19, 20, 21, 22, 23, 24, 25, 26, 27, 28, 29, 30, 31, 32, 33, 34, 35, 36, 37, 38, 39, 40, 41, 42, 43, 44, 45, 46, 47, 48, 49, 50, 51] (by decide +kernel) (by decide +kernel)
set_option maxRecDepth 20000 in
theorem gX7_depth_X7_depthOf : GoodIn wsX7_depth (wsV RX7 153 RX7 yX7_depthOf wsX7_depthOf) := goodIn_app (goodIn_of _ (by decide +kernel)) ggX7_depth_X7_depthOf
set_option maxRecDepth 20000 in
theorem ggX7_parts_X7_isNoLap : GoodIn wsX7_parts wsX7_isNoLap := goodIn_r _ [5, 6, 7, 8, 4, 9, 22, 23, 24, 25, 26, 27, 28, 29, 30, 31, 32, 33, 34, 35, 36, 37, 38, 39, 40, 41, 42, 43, 44, 45, 46, 47, 48, 49, 50, 51, 52, 53] (by decide +kernel) (by decide +kernel)
set_option maxRecDepth 20000 in
theorem gX7_parts_X7_isNoLap : GoodIn wsX7_parts (wsV RX7 131 RX7 yX7_isNoLap wsX7_isNoLap) := goodIn_app (goodIn_of _ (by decide +kernel)) ggX7_parts_X7_isNoLap
set_option maxRecDepth 20000 in
theorem ggX7_parts_X7_fails : GoodIn wsX7_parts wsX7_fails := goodIn_r _ [13, 14, 22, 23, 24, 25, 26, 27, 28, 29, 30, 31, 32, 33, 34, 35, 36, 37, 38, 39, 40, 41, 42, 43, 44, 45, 46, 47, 48, 49, 50, 51, 52, 53] (by decide +kernel) (by decide +kernel)
set_option maxRecDepth 20000 in
theorem gX7_parts_X7_fails : GoodIn wsX7_parts (wsV RX7 89 RX7 yX7_fails wsX7_fails) := goodIn_app (goodIn_of _ (by decide +kernel)) ggX7_parts_X7_fails
set_option maxRecDepth 20000 in
theorem ggX7_parts_X7_partsOf : GoodIn wsX7_parts wsX7_partsOf := goodIn_r _ [18, 19, 20, 21, 22, 23, 24, 25, 26, 27, 28, 29, 30, 31, 32, 33, 34, 35, 36, 37, 38, 39, 40, 41, 42, 43, 44, 45, 46, 47, 48, 49, 50, 51, 52, 53] (by decide +kernel) (by decide +kernel)
set_option maxRecDepth 20000 in
theorem gX7_parts_X7_partsOf : GoodIn wsX7_parts (wsV RX7 159 RX7 yX7_partsOf wsX7_partsOf) := goodIn_app (goodIn_of _ (by decide +kernel)) ggX7_parts_X7_partsOf
set_option maxRecDepth 20000 in
theorem ggX7_allParts_X7_partsOf : GoodIn wsX7_allParts wsX7_partsOf := goodIn_r _ [6, 7, 8, 9, 10, 11, 12, 13, 14, 15, 16, 17, 18, 19, 20, 21, 22, 23, 24, 25, 26, 27, 28, 29, 30, 31, 32, 33, 34, 35, 36, 37, 38, 39, 40, 41] (by decide +kernel) (by decide +kernel)
set_option maxRecDepth 20000 in
theorem gX7_allParts_X7_partsOf : GoodIn wsX7_allParts (wsV RX7 159 RX7 yX7_partsOf wsX7_partsOf) := goodIn_app (goodIn_of _ (by decide +kernel)) ggX7_allParts_X7_partsOf
set_option maxRecDepth 20000 in
theorem ggX7_stored_X7_allParts : GoodIn wsX7_stored wsX7_allParts := goodIn_r _ [6, 7, 8, 9, 10, 5, 11, 12, 13, 14, 15, 16, 17, 18, 19, 20, 21, 22, 23, 24, 25, 26, 27, 28, 29, 30, 31, 32, 33, 34, 35, 36, 37, 38, 39, 40, 41, 42, 43, 44, 45, 46] (by decide +kernel) (by decide +kernel)
set_option maxRecDepth 20000 in
theorem gX7_stored_X7_allParts : GoodIn wsX7_stored (wsV RX7 162 RX7 yX7_allParts wsX7_allParts) := goodIn_app (goodIn_of _ (by decide +kernel)) ggX7_stored_X7_allParts
set_option maxRecDepth 20000 in
theorem ggX7_resting_X7_isNoLap : GoodIn wsX7_resting wsX7_isNoLap := goodIn_r _ [6, 1, 7, 8, 5, 9, 20, 21, 22, 23, 24, 25, 26, 27, 28, 29, 30, 31, 32, 33, 34, 35, 36, 37, 38, 39, 40, 41, 42, 43, 44, 45, 46, 47, 48, 49, 50, 51] (by decide +kernel) (by decide +kernel)
set_option maxRecDepth 20000 in
theorem gX7_resting_X7_isNoLap : GoodIn wsX7_resting (wsV RX7 131 RX7 yX7_isNoLap wsX7_isNoLap) := goodIn_app (goodIn_of _ (by decide +kernel)) ggX7_resting_X7_isNoLap
set_option maxRecDepth 20000 in
theorem ggX7_resting_X7_fails : GoodIn wsX7_resting wsX7_fails := goodIn_r _ [13, 14, 20, 21, 22, 23, 24, 25, 26, 27, 28, 29, 30, 31, 32, 33, 34, 35, 36, 37, 38, 39, 40, 41, 42, 43, 44, 45, 46, 47, 48, 49, 50, 51] (by decide +kernel) (by decide +kernel)
set_option maxRecDepth 20000 in
theorem gX7_resting_X7_fails : GoodIn wsX7_resting (wsV RX7 89 RX7 yX7_fails wsX7_fails) := goodIn_app (goodIn_of _ (by decide +kernel)) ggX7_resting_X7_fails
set_option maxRecDepth 20000 in
theorem ggX7_resting_X7_rests : GoodIn wsX7_resting wsX7_rests := goodIn_r _ [18, 19, 20, 21, 22, 23, 24, 25, 26, 27, 28, 29, 30, 31, 32, 33, 34, 35, 36, 37, 38, 39, 40, 41, 42, 43, 44, 45, 46, 47, 48, 49, 50, 51] (by decide +kernel) (by decide +kernel)
set_option maxRecDepth 20000 in
theorem gX7_resting_X7_rests : GoodIn wsX7_resting (wsV RX7 166 RX7 yX7_rests wsX7_rests) := goodIn_app (goodIn_of _ (by decide +kernel)) ggX7_resting_X7_rests
set_option maxRecDepth 20000 in
theorem ggX7_strike_X7_isNoLap : GoodIn wsX7_strike wsX7_isNoLap := goodIn_r _ [8, 2, 9, 10, 7, 11, 17, 18, 19, 20, 21, 22, 23, 24, 25, 26, 27, 28, 29, 30, 31, 32, 33, 34, 35, 36, 37, 38, 39, 40, 41, 42, 43, 44, 45, 46, 47, 48] (by decide +kernel) (by decide +kernel)
set_option maxRecDepth 20000 in
theorem gX7_strike_X7_isNoLap : GoodIn wsX7_strike (wsV RX7 131 RX7 yX7_isNoLap wsX7_isNoLap) := goodIn_app (goodIn_of _ (by decide +kernel)) ggX7_strike_X7_isNoLap
set_option maxRecDepth 20000 in
theorem ggX7_strike_X7_fails : GoodIn wsX7_strike wsX7_fails := goodIn_r _ [15, 16, 17, 18, 19, 20, 21, 22, 23, 24, 25, 26, 27, 28, 29, 30, 31, 32, 33, 34, 35, 36, 37, 38, 39, 40, 41, 42, 43, 44, 45, 46, 47, 48] (by decide +kernel) (by decide +kernel)
set_option maxRecDepth 20000 in
theorem gX7_strike_X7_fails : GoodIn wsX7_strike (wsV RX7 89 RX7 yX7_fails wsX7_fails) := goodIn_app (goodIn_of _ (by decide +kernel)) ggX7_strike_X7_fails
set_option maxRecDepth 20000 in
theorem ggX7_giveBack_X7_isNoLap : GoodIn wsX7_giveBack wsX7_isNoLap := goodIn_r _ [7, 2, 8, 9, 6, 10, 16, 17, 18, 19, 20, 21, 22, 23, 24, 25, 26, 27, 28, 29, 30, 31, 32, 33, 34, 35, 36, 37, 38, 39, 40, 41, 42, 43, 44, 45, 46, 47] (by decide +kernel) (by decide +kernel)
set_option maxRecDepth 20000 in
theorem gX7_giveBack_X7_isNoLap : GoodIn wsX7_giveBack (wsV RX7 131 RX7 yX7_isNoLap wsX7_isNoLap) := goodIn_app (goodIn_of _ (by decide +kernel)) ggX7_giveBack_X7_isNoLap
set_option maxRecDepth 20000 in
theorem ggX7_giveBack_X7_fails : GoodIn wsX7_giveBack wsX7_fails := goodIn_r _ [14, 15, 16, 17, 18, 19, 20, 21, 22, 23, 24, 25, 26, 27, 28, 29, 30, 31, 32, 33, 34, 35, 36, 37, 38, 39, 40, 41, 42, 43, 44, 45, 46, 47] (by decide +kernel) (by decide +kernel)
set_option maxRecDepth 20000 in
theorem gX7_giveBack_X7_fails : GoodIn wsX7_giveBack (wsV RX7 89 RX7 yX7_fails wsX7_fails) := goodIn_app (goodIn_of _ (by decide +kernel)) ggX7_giveBack_X7_fails
set_option maxRecDepth 20000 in
theorem ggX7_stands_X7_isNoLap : GoodIn wsX7_stands wsX7_isNoLap := goodIn_r _ [6, 7, 8, 9, 5, 10, 16, 17, 18, 19, 20, 21, 22, 23, 24, 25, 26, 27, 28, 29, 30, 31, 32, 33, 34, 35, 36, 37, 38, 39, 40, 41, 42, 43, 44, 45, 46, 47] (by decide +kernel) (by decide +kernel)
set_option maxRecDepth 20000 in
theorem gX7_stands_X7_isNoLap : GoodIn wsX7_stands (wsV RX7 131 RX7 yX7_isNoLap wsX7_isNoLap) := goodIn_app (goodIn_of _ (by decide +kernel)) ggX7_stands_X7_isNoLap
set_option maxRecDepth 20000 in
theorem ggX7_stands_X7_fails : GoodIn wsX7_stands wsX7_fails := goodIn_r _ [14, 15, 16, 17, 18, 19, 20, 21, 22, 23, 24, 25, 26, 27, 28, 29, 30, 31, 32, 33, 34, 35, 36, 37, 38, 39, 40, 41, 42, 43, 44, 45, 46, 47] (by decide +kernel) (by decide +kernel)
set_option maxRecDepth 20000 in
theorem gX7_stands_X7_fails : GoodIn wsX7_stands (wsV RX7 89 RX7 yX7_fails wsX7_fails) := goodIn_app (goodIn_of _ (by decide +kernel)) ggX7_stands_X7_fails
set_option maxRecDepth 20000 in
theorem ggX7_penalty_X7_isNoLap : GoodIn wsX7_penalty wsX7_isNoLap := goodIn_r _ [6, 7, 8, 9, 5, 10, 16, 17, 18, 19, 20, 21, 22, 23, 24, 25, 26, 27, 28, 29, 30, 31, 32, 33, 34, 35, 36, 37, 38, 39, 40, 41, 42, 43, 44, 45, 46, 47] (by decide +kernel) (by decide +kernel)
set_option maxRecDepth 20000 in
theorem gX7_penalty_X7_isNoLap : GoodIn wsX7_penalty (wsV RX7 131 RX7 yX7_isNoLap wsX7_isNoLap) := goodIn_app (goodIn_of _ (by decide +kernel)) ggX7_penalty_X7_isNoLap
set_option maxRecDepth 20000 in
theorem ggX7_penalty_X7_in : GoodIn wsX7_penalty wsX7_in := goodIn_r _ [10] (by decide +kernel) (by decide +kernel)
set_option maxRecDepth 20000 in
theorem gX7_penalty_X7_in : GoodIn wsX7_penalty (va_wsS RX7 79 yX7_in wsX7_in) := goodIn_app (goodIn_of _ (by decide +kernel)) ggX7_penalty_X7_in
set_option maxRecDepth 20000 in
theorem ggX7_penalty_X7_fails : GoodIn wsX7_penalty wsX7_fails := goodIn_r _ [14, 15, 16, 17, 18, 19, 20, 21, 22, 23, 24, 25, 26, 27, 28, 29, 30, 31, 32, 33, 34, 35, 36, 37, 38, 39, 40, 41, 42, 43, 44, 45, 46, 47] (by decide +kernel) (by decide +kernel)
set_option maxRecDepth 20000 in
theorem gX7_penalty_X7_fails : GoodIn wsX7_penalty (wsV RX7 89 RX7 yX7_fails wsX7_fails) := goodIn_app (goodIn_of _ (by decide +kernel)) ggX7_penalty_X7_fails
set_option maxRecDepth 20000 in
theorem ggX7_round_X7_isNoTrack : GoodIn wsX7_round wsX7_isNoTrack := goodIn_r _ [8, 9, 10, 11, 7, 12, 18, 19, 20, 21, 22, 23, 24, 25, 26, 27, 28, 29, 30, 31, 32, 33, 34, 35, 36, 37, 38, 39, 40, 41, 42, 43, 44, 45, 46, 47, 48, 49] (by decide +kernel) (by decide +kernel)
set_option maxRecDepth 20000 in
theorem gX7_round_X7_isNoTrack : GoodIn wsX7_round (wsV RX7 93 RX7 yX7_isNoTrack wsX7_isNoTrack) := goodIn_app (goodIn_of _ (by decide +kernel)) ggX7_round_X7_isNoTrack
set_option maxRecDepth 20000 in
theorem ggX7_round_X7_fails : GoodIn wsX7_round wsX7_fails := goodIn_r _ [16, 17, 18, 19, 20, 21, 22, 23, 24, 25, 26, 27, 28, 29, 30, 31, 32, 33, 34, 35, 36, 37, 38, 39, 40, 41, 42, 43, 44, 45, 46, 47, 48, 49] (by decide +kernel) (by decide +kernel)
set_option maxRecDepth 20000 in
theorem gX7_round_X7_fails : GoodIn wsX7_round (wsV RX7 89 RX7 yX7_fails wsX7_fails) := goodIn_app (goodIn_of _ (by decide +kernel)) ggX7_round_X7_fails
set_option maxRecDepth 20000 in
theorem ggX7_shut_X7_fails : GoodIn wsX7_shut wsX7_fails := goodIn_r _ [7, 8, 9, 10, 11, 12, 13, 14, 15, 16, 17, 18, 19, 20, 21, 22, 23, 24, 25, 26, 27, 28, 29, 30, 31, 32, 33, 34, 35, 36, 37, 38, 39, 40] (by decide +kernel) (by decide +kernel)
set_option maxRecDepth 20000 in
theorem gX7_shut_X7_fails : GoodIn wsX7_shut (wsV RX7 89 RX7 yX7_fails wsX7_fails) := goodIn_app (goodIn_of _ (by decide +kernel)) ggX7_shut_X7_fails
set_option maxRecDepth 20000 in
theorem ggX7_lapNow_X7_countOf : GoodIn wsX7_lapNow wsX7_countOf := goodIn_r _ [9, 10, 11, 12, 13, 14, 15, 16, 17, 18, 19, 20, 21, 22, 23, 24, 25, 26, 27, 28, 29, 30, 31, 32, 33, 34, 35, 36, 37, 38, 39, 40, 41, 42, 43] (by decide +kernel) (by decide +kernel)
set_option maxRecDepth 20000 in
theorem gX7_lapNow_X7_countOf : GoodIn wsX7_lapNow (wsV RX7 156 RX7 yX7_countOf wsX7_countOf) := goodIn_app (goodIn_of _ (by decide +kernel)) ggX7_lapNow_X7_countOf
set_option maxRecDepth 20000 in
theorem ggX7_isNoSeat_X7_in : GoodIn wsX7_isNoSeat wsX7_in := goodIn_r _ [5] (by decide +kernel) (by decide +kernel)
set_option maxRecDepth 20000 in
theorem gX7_isNoSeat_X7_in : GoodIn wsX7_isNoSeat (va_wsS RX7 79 yX7_in wsX7_in) := goodIn_app (goodIn_of _ (by decide +kernel)) ggX7_isNoSeat_X7_in
set_option maxRecDepth 20000 in
theorem ggX7_lapIn_X7_lapNow : GoodIn wsX7_lapIn wsX7_lapNow := goodIn_r _ [5, 6, 7, 8, 9, 10, 11, 12, 4, 13, 14, 15, 29, 30, 31, 32, 33, 34, 35, 36, 37, 38, 39, 40, 41, 42, 43, 44, 45, 46, 47, 48, 49, 50, 51, 52, 53, 54, 55, 56, 57, 58, 59, 60] (by decide +kernel) (by decide +kernel)
set_option maxRecDepth 20000 in
theorem gX7_lapIn_X7_lapNow : GoodIn wsX7_lapIn (wsV RX7 169 RX7 yX7_lapNow wsX7_lapNow) := goodIn_app (goodIn_of _ (by decide +kernel)) ggX7_lapIn_X7_lapNow
set_option maxRecDepth 20000 in
theorem ggX7_lapIn_X7_isNoSeat : GoodIn wsX7_lapIn wsX7_isNoSeat := goodIn_r _ [19, 20, 21, 22, 4, 23, 29, 30, 31, 32, 33, 34, 35, 36, 37, 38, 39, 40, 41, 42, 43, 44, 45, 46, 47, 48, 49, 50, 51, 52, 53, 54, 55, 56, 57, 58, 59, 60] (by decide +kernel) (by decide +kernel)
set_option maxRecDepth 20000 in
theorem gX7_lapIn_X7_isNoSeat : GoodIn wsX7_lapIn (wsV RX7 172 RX7 yX7_isNoSeat wsX7_isNoSeat) := goodIn_app (goodIn_of _ (by decide +kernel)) ggX7_lapIn_X7_isNoSeat
set_option maxRecDepth 20000 in
theorem ggX7_lapIn_X7_fails : GoodIn wsX7_lapIn wsX7_fails := goodIn_r _ [27, 28, 29, 30, 31, 32, 33, 34, 35, 36, 37, 38, 39, 40, 41, 42, 43, 44, 45, 46, 47, 48, 49, 50, 51, 52, 53, 54, 55, 56, 57, 58, 59, 60] (by decide +kernel) (by decide +kernel)
set_option maxRecDepth 20000 in
theorem gX7_lapIn_X7_fails : GoodIn wsX7_lapIn (wsV RX7 89 RX7 yX7_fails wsX7_fails) := goodIn_app (goodIn_of _ (by decide +kernel)) ggX7_lapIn_X7_fails
set_option maxRecDepth 20000 in
theorem ggX7_placeNow_X7_lapNow : GoodIn wsX7_placeNow wsX7_lapNow := goodIn_r _ [5, 6, 7, 8, 9, 10, 11, 12, 4, 13, 14, 15, 16, 17, 18, 19, 20, 21, 22, 23, 24, 25, 26, 27, 28, 29, 30, 31, 32, 33, 34, 35, 36, 37, 38, 39, 40, 41, 42, 43, 44, 45, 46, 47] (by decide +kernel) (by decide +kernel)
set_option maxRecDepth 20000 in
theorem gX7_placeNow_X7_lapNow : GoodIn wsX7_placeNow (wsV RX7 169 RX7 yX7_lapNow wsX7_lapNow) := goodIn_app (goodIn_of _ (by decide +kernel)) ggX7_placeNow_X7_lapNow
set_option maxRecDepth 20000 in
theorem ggX7_placeNow_X7_countOf : GoodIn wsX7_placeNow wsX7_countOf := goodIn_r _ [13, 14, 15, 16, 17, 18, 19, 20, 21, 22, 23, 24, 25, 26, 27, 28, 29, 30, 31, 32, 33, 34, 35, 36, 37, 38, 39, 40, 41, 42, 43, 44, 45, 46, 47] (by decide +kernel) (by decide +kernel)
set_option maxRecDepth 20000 in
theorem gX7_placeNow_X7_countOf : GoodIn wsX7_placeNow (wsV RX7 156 RX7 yX7_countOf wsX7_countOf) := goodIn_app (goodIn_of _ (by decide +kernel)) ggX7_placeNow_X7_countOf
set_option maxRecDepth 20000 in
theorem ggX7_placeIn_X7_isNoSeat : GoodIn wsX7_placeIn wsX7_isNoSeat := goodIn_r _ [5, 6, 7, 8, 4, 9, 33, 34, 35, 36, 37, 38, 39, 40, 41, 42, 43, 44, 45, 46, 47, 48, 49, 50, 51, 52, 53, 54, 55, 56, 57, 58, 59, 60, 61, 62, 63, 64] (by decide +kernel) (by decide +kernel)
set_option maxRecDepth 20000 in
theorem gX7_placeIn_X7_isNoSeat : GoodIn wsX7_placeIn (wsV RX7 172 RX7 yX7_isNoSeat wsX7_isNoSeat) := goodIn_app (goodIn_of _ (by decide +kernel)) ggX7_placeIn_X7_isNoSeat
set_option maxRecDepth 20000 in
theorem ggX7_placeIn_X7_placeNow : GoodIn wsX7_placeIn wsX7_placeNow := goodIn_r _ [13, 14, 15, 16, 4, 17, 18, 19, 20, 21, 22, 23, 24, 25, 26, 27, 33, 34, 35, 36, 37, 38, 39, 40, 41, 42, 43, 44, 45, 46, 47, 48, 49, 50, 51, 52, 53, 54, 55, 56, 57, 58, 59, 60, 61, 62, 63, 64] (by decide +kernel) (by decide +kernel)
set_option maxRecDepth 20000 in
theorem gX7_placeIn_X7_placeNow : GoodIn wsX7_placeIn (wsV RX7 175 RX7 yX7_placeNow wsX7_placeNow) := goodIn_app (goodIn_of _ (by decide +kernel)) ggX7_placeIn_X7_placeNow
set_option maxRecDepth 20000 in
theorem ggX7_placeIn_X7_fails : GoodIn wsX7_placeIn wsX7_fails := goodIn_r _ [31, 32, 33, 34, 35, 36, 37, 38, 39, 40, 41, 42, 43, 44, 45, 46, 47, 48, 49, 50, 51, 52, 53, 54, 55, 56, 57, 58, 59, 60, 61, 62, 63, 64] (by decide +kernel) (by decide +kernel)
set_option maxRecDepth 20000 in
theorem gX7_placeIn_X7_fails : GoodIn wsX7_placeIn (wsV RX7 89 RX7 yX7_fails wsX7_fails) := goodIn_app (goodIn_of _ (by decide +kernel)) ggX7_placeIn_X7_fails
set_option maxRecDepth 20000 in
theorem ggX7_drop_X7_in : GoodIn wsX7_drop wsX7_in := goodIn_r _ [5] (by decide +kernel) (by decide +kernel)
set_option maxRecDepth 20000 in
theorem gX7_drop_X7_in : GoodIn wsX7_drop (va_wsS RX7 79 yX7_in wsX7_in) := goodIn_app (goodIn_of _ (by decide +kernel)) ggX7_drop_X7_in
set_option maxRecDepth 20000 in
theorem ggX7_drop_X7_fails : GoodIn wsX7_drop wsX7_fails := goodIn_r _ [9, 10, 11, 12, 13, 14, 15, 16, 17, 18, 19, 20, 21, 22, 23, 24, 25, 26, 27, 28, 29, 30, 31, 32, 33, 34, 35, 36, 37, 38, 39, 40, 41, 42] (by decide +kernel) (by decide +kernel)
set_option maxRecDepth 20000 in
theorem gX7_drop_X7_fails : GoodIn wsX7_drop (wsV RX7 89 RX7 yX7_fails wsX7_fails) := goodIn_app (goodIn_of _ (by decide +kernel)) ggX7_drop_X7_fails
set_option maxRecDepth 20000 in
theorem ggX7_pointsOf_X7_placeNow : GoodIn wsX7_pointsOf wsX7_placeNow := goodIn_r _ [8, 9, 10, 11, 7, 12, 13, 14, 15, 16, 17, 18, 19, 20, 21, 22, 26, 27, 28, 29, 30, 31, 32, 33, 34, 35, 36, 37, 38, 39, 40, 41, 42, 43, 44, 45, 46, 47, 48, 49, 50, 51, 52, 53, 54, 55, 56, 57] (by decide +kernel) (by decide +kernel)
set_option maxRecDepth 20000 in
theorem gX7_pointsOf_X7_placeNow : GoodIn wsX7_pointsOf (wsV RX7 175 RX7 yX7_placeNow wsX7_placeNow) := goodIn_app (goodIn_of _ (by decide +kernel)) ggX7_pointsOf_X7_placeNow
set_option maxRecDepth 20000 in
theorem ggX7_pointsOf_X7_worth : GoodIn wsX7_pointsOf wsX7_worth := goodIn_r _ [25] (by decide +kernel) (by decide +kernel)
set_option maxRecDepth 20000 in
theorem gX7_pointsOf_X7_worth : GoodIn wsX7_pointsOf (va_wsS RX7 181 yX7_worth wsX7_worth) := goodIn_app (goodIn_of _ (by decide +kernel)) ggX7_pointsOf_X7_worth
set_option maxRecDepth 20000 in
theorem ggX7_winsOf_X7_placeNow : GoodIn wsX7_winsOf wsX7_placeNow := goodIn_r _ [6, 7, 8, 9, 5, 10, 11, 12, 13, 14, 15, 16, 17, 18, 19, 20, 21, 22, 23, 24, 25, 26, 27, 28, 29, 30, 31, 32, 33, 34, 35, 36, 37, 38, 39, 40, 41, 42, 43, 44, 45, 46, 47, 48, 49, 50, 51, 52] (by decide +kernel) (by decide +kernel)
set_option maxRecDepth 20000 in
theorem gX7_winsOf_X7_placeNow : GoodIn wsX7_winsOf (wsV RX7 175 RX7 yX7_placeNow wsX7_placeNow) := goodIn_app (goodIn_of _ (by decide +kernel)) ggX7_winsOf_X7_placeNow
set_option maxRecDepth 20000 in
theorem ggX7_isNoDriver_X7_in : GoodIn wsX7_isNoDriver wsX7_in := goodIn_r _ [4] (by decide +kernel) (by decide +kernel)
set_option maxRecDepth 20000 in
theorem gX7_isNoDriver_X7_in : GoodIn wsX7_isNoDriver (va_wsS RX7 79 yX7_in wsX7_in) := goodIn_app (goodIn_of _ (by decide +kernel)) ggX7_isNoDriver_X7_in
set_option maxRecDepth 20000 in
theorem ggX7_points_X7_isNoDriver : GoodIn wsX7_points wsX7_isNoDriver := goodIn_r _ [4, 5, 6, 3, 7] (by decide +kernel) (by decide +kernel)
set_option maxRecDepth 20000 in
theorem gX7_points_X7_isNoDriver : GoodIn wsX7_points (va_wsS RX7 184 yX7_isNoDriver wsX7_isNoDriver) := goodIn_app (goodIn_of _ (by decide +kernel)) ggX7_points_X7_isNoDriver
set_option maxRecDepth 20000 in
theorem ggX7_points_X7_fails : GoodIn wsX7_points wsX7_fails := goodIn_r _ [11, 12, 41, 42, 43, 44, 45, 46, 47, 48, 49, 50, 51, 52, 53, 54, 55, 56, 57, 58, 59, 60, 61, 62, 63, 64, 65, 66, 67, 68, 69, 70, 71, 72] (by decide +kernel) (by decide +kernel)
set_option maxRecDepth 20000 in
theorem gX7_points_X7_fails : GoodIn wsX7_points (wsV RX7 89 RX7 yX7_fails wsX7_fails) := goodIn_app (goodIn_of _ (by decide +kernel)) ggX7_points_X7_fails
set_option maxRecDepth 20000 in
theorem ggX7_points_X7_pointsOf : GoodIn wsX7_points wsX7_pointsOf := goodIn_r _ [16, 17, 18, 19, 20, 21, 22, 3, 23, 24, 25, 26, 27, 28, 29, 30, 31, 32, 33, 34, 35, 36, 37, 38, 39, 40, 41, 42, 43, 44, 45, 46, 47, 48, 49, 50, 51, 52, 53, 54, 55, 56, 57, 58, 59, 60, 61, 62, 63, 64, 65, 66, 67, 68, 69, 70, 71, 72] (by decide +kernel) (by decide +kernel)
set_option maxRecDepth 20000 in
theorem gX7_points_X7_pointsOf : GoodIn wsX7_points (wsV RX7 187 RX7 yX7_pointsOf wsX7_pointsOf) := goodIn_app (goodIn_of _ (by decide +kernel)) ggX7_points_X7_pointsOf
set_option maxRecDepth 20000 in
theorem ggX7_wins_X7_isNoDriver : GoodIn wsX7_wins wsX7_isNoDriver := goodIn_r _ [4, 5, 6, 3, 7] (by decide +kernel) (by decide +kernel)
set_option maxRecDepth 20000 in
theorem gX7_wins_X7_isNoDriver : GoodIn wsX7_wins (va_wsS RX7 184 yX7_isNoDriver wsX7_isNoDriver) := goodIn_app (goodIn_of _ (by decide +kernel)) ggX7_wins_X7_isNoDriver
set_option maxRecDepth 20000 in
theorem ggX7_wins_X7_fails : GoodIn wsX7_wins wsX7_fails := goodIn_r _ [11, 12, 36, 37, 38, 39, 40, 41, 42, 43, 44, 45, 46, 47, 48, 49, 50, 51, 52, 53, 54, 55, 56, 57, 58, 59, 60, 61, 62, 63, 64, 65, 66, 67] (by decide +kernel) (by decide +kernel)
set_option maxRecDepth 20000 in
theorem gX7_wins_X7_fails : GoodIn wsX7_wins (wsV RX7 89 RX7 yX7_fails wsX7_fails) := goodIn_app (goodIn_of _ (by decide +kernel)) ggX7_wins_X7_fails
set_option maxRecDepth 20000 in
theorem ggX7_wins_X7_winsOf : GoodIn wsX7_wins wsX7_winsOf := goodIn_r _ [16, 17, 18, 19, 20, 3, 21, 22, 23, 24, 25, 26, 27, 28, 29, 30, 31, 32, 33, 34, 35, 36, 37, 38, 39, 40, 41, 42, 43, 44, 45, 46, 47, 48, 49, 50, 51, 52, 53, 54, 55, 56, 57, 58, 59, 60, 61, 62, 63, 64, 65, 66, 67] (by decide +kernel) (by decide +kernel)
set_option maxRecDepth 20000 in
theorem gX7_wins_X7_winsOf : GoodIn wsX7_wins (wsV RX7 190 RX7 yX7_winsOf wsX7_winsOf) := goodIn_app (goodIn_of _ (by decide +kernel)) ggX7_wins_X7_winsOf
set_option maxRecDepth 20000 in
theorem ggX7_standing_X7_isNoDriver : GoodIn wsX7_standing wsX7_isNoDriver := goodIn_r _ [4, 5, 6, 3, 7] (by decide +kernel) (by decide +kernel)
set_option maxRecDepth 20000 in
theorem gX7_standing_X7_isNoDriver : GoodIn wsX7_standing (va_wsS RX7 184 yX7_isNoDriver wsX7_isNoDriver) := goodIn_app (goodIn_of _ (by decide +kernel)) ggX7_standing_X7_isNoDriver
set_option maxRecDepth 20000 in
theorem ggX7_standing_X7_fails : GoodIn wsX7_standing wsX7_fails := goodIn_r _ [11, 12, 45, 46, 47, 48, 49, 50, 51, 52, 53, 54, 55, 56, 57, 58, 59, 60, 61, 62, 63, 64, 65, 66, 67, 68, 69, 70, 71, 72, 73, 74, 75, 76] (by decide +kernel) (by decide +kernel)
set_option maxRecDepth 20000 in
theorem gX7_standing_X7_fails : GoodIn wsX7_standing (wsV RX7 89 RX7 yX7_fails wsX7_fails) := goodIn_app (goodIn_of _ (by decide +kernel)) ggX7_standing_X7_fails
set_option maxRecDepth 20000 in
theorem ggX7_standing_X7_pointsOf : GoodIn wsX7_standing wsX7_pointsOf := goodIn_r _ [16, 17, 18, 19, 20, 21, 22, 3, 23, 24, 25, 26, 27, 28, 29, 30, 31, 32, 33, 34, 35, 36, 37, 38, 39, 40, 45, 46, 47, 48, 49, 50, 51, 52, 53, 54, 55, 56, 57, 58, 59, 60, 61, 62, 63, 64, 65, 66, 67, 68, 69, 70, 71, 72, 73, 74, 75, 76] (by decide +kernel) (by decide +kernel)
set_option maxRecDepth 20000 in
theorem gX7_standing_X7_pointsOf : GoodIn wsX7_standing (wsV RX7 187 RX7 yX7_pointsOf wsX7_pointsOf) := goodIn_app (goodIn_of _ (by decide +kernel)) ggX7_standing_X7_pointsOf
set_option maxRecDepth 20000 in
theorem ggX7_standing_X7_winsOf : GoodIn wsX7_standing wsX7_winsOf := goodIn_r _ [44, 17, 20, 21, 22, 3, 23, 24, 25, 26, 27, 28, 29, 30, 31, 32, 33, 34, 35, 36, 37, 45, 46, 47, 48, 49, 50, 51, 52, 53, 54, 55, 56, 57, 58, 59, 60, 61, 62, 63, 64, 65, 66, 67, 68, 69, 70, 71, 72, 73, 74, 75, 76] (by decide +kernel) (by decide +kernel)
set_option maxRecDepth 20000 in
theorem gX7_standing_X7_winsOf : GoodIn wsX7_standing (wsV RX7 190 RX7 yX7_winsOf wsX7_winsOf) := goodIn_app (goodIn_of _ (by decide +kernel)) ggX7_standing_X7_winsOf
set_option maxRecDepth 20000 in
theorem ggX7_checksum_X7_partsOf : GoodIn wsX7_checksum wsX7_partsOf := goodIn_r _ [12, 13, 14, 15, 16, 17, 18, 19, 20, 21, 22, 23, 24, 25, 26, 27, 28, 29, 30, 31, 32, 33, 34, 35, 36, 37, 38, 39, 40, 41, 42, 43, 44, 45, 46, 47] (by decide +kernel) (by decide +kernel)
set_option maxRecDepth 20000 in
theorem gX7_checksum_X7_partsOf : GoodIn wsX7_checksum (wsV RX7 159 RX7 yX7_partsOf wsX7_partsOf) := goodIn_app (goodIn_of _ (by decide +kernel)) ggX7_checksum_X7_partsOf
set_option maxRecDepth 20000 in
theorem ggX7_shareStored_X7_fails : GoodIn wsX7_shareStored wsX7_fails := goodIn_r _ [7, 8, 19, 20, 21, 22, 23, 24, 25, 26, 27, 28, 29, 30, 31, 32, 33, 34, 35, 36, 37, 38, 39, 40, 41, 42, 43, 44, 45, 46, 47, 48, 49, 50] (by decide +kernel) (by decide +kernel)
set_option maxRecDepth 20000 in
theorem gX7_shareStored_X7_fails : GoodIn wsX7_shareStored (wsV RX7 89 RX7 yX7_fails wsX7_fails) := goodIn_app (goodIn_of _ (by decide +kernel)) ggX7_shareStored_X7_fails
set_option maxRecDepth 20000 in
theorem ggX7_shareStored_X7_allParts : GoodIn wsX7_shareStored wsX7_allParts := goodIn_r _ [12, 1, 13, 14, 15, 6, 16, 17, 2, 18, 19, 20, 21, 22, 23, 24, 25, 26, 27, 28, 29, 30, 31, 32, 33, 34, 35, 36, 37, 38, 39, 40, 41, 42, 43, 44, 45, 46, 47, 48, 49, 50] (by decide +kernel) (by decide +kernel)
set_option maxRecDepth 20000 in
theorem gX7_shareStored_X7_allParts : GoodIn wsX7_shareStored (wsV RX7 162 RX7 yX7_allParts wsX7_allParts) := goodIn_app (goodIn_of _ (by decide +kernel)) ggX7_shareStored_X7_allParts
set_option maxRecDepth 20000 in
theorem ggX7_meanTime_X7_countOf : GoodIn wsX7_meanTime wsX7_countOf := goodIn_r _ [7, 8, 9, 15, 16, 17, 18, 19, 20, 21, 22, 23, 24, 25, 26, 27, 28, 29, 30, 31, 32, 33, 34, 35, 36, 37, 38, 39, 40, 41, 42, 43, 44, 45, 46] (by decide +kernel) (by decide +kernel)
set_option maxRecDepth 20000 in
theorem gX7_meanTime_X7_countOf : GoodIn wsX7_meanTime (wsV RX7 156 RX7 yX7_countOf wsX7_countOf) := goodIn_app (goodIn_of _ (by decide +kernel)) ggX7_meanTime_X7_countOf
set_option maxRecDepth 20000 in
theorem ggX7_meanTime_X7_fails : GoodIn wsX7_meanTime wsX7_fails := goodIn_r _ [13, 14, 15, 16, 17, 18, 19, 20, 21, 22, 23, 24, 25, 26, 27, 28, 29, 30, 31, 32, 33, 34, 35, 36, 37, 38, 39, 40, 41, 42, 43, 44, 45, 46] (by decide +kernel) (by decide +kernel)
set_option maxRecDepth 20000 in
theorem gX7_meanTime_X7_fails : GoodIn wsX7_meanTime (wsV RX7 89 RX7 yX7_fails wsX7_fails) := goodIn_app (goodIn_of _ (by decide +kernel)) ggX7_meanTime_X7_fails
end
section
/-! ===== numbers ===== -/
def iN (z : Int) : Int32 := Int32.ofInt z
def R32 (z : Int) : Prop := -2147483648 ≤ z ∧ z ≤ 2147483647
theorem R32.mk {z : Int} (h1 : -2147483648 ≤ z) (h2 : z ≤ 2147483647) : R32 z := ⟨h1, h2⟩
theorem iN_toInt {z : Int} (h : R32 z) : (iN z).toInt = z := Int32.toInt_ofInt_of_le (by have := h.1; omega) (by have := h.2; omega)
theorem iN_of (x : Int32) : iN x.toInt = x := Int32.ofInt_toInt x
theorem R32_of (x : Int32) : R32 x.toInt := by
  have h1 := Int32.le_toInt x
  have h2 := Int32.toInt_lt x
  exact ⟨by omega, by omega⟩
theorem iN_add (a b : Int) : iN a + iN b = iN (a + b) := (Int32.ofInt_add a b).symm
theorem iN_sub (a b : Int) : iN a - iN b = iN (a - b) := (Int32.ofInt_sub a b).symm
theorem iN_mul (a b : Int) : iN a * iN b = iN (a * b) := (Int32.ofInt_mul a b).symm
theorem iN_lt {a b : Int} (ha : R32 a) (hb : R32 b) : iN a < iN b ↔ a < b := by
  rw [Int32.lt_iff_toInt_lt, iN_toInt ha, iN_toInt hb]
theorem iN_le {a b : Int} (ha : R32 a) (hb : R32 b) : iN a ≤ iN b ↔ a ≤ b := by
  rw [Int32.le_iff_toInt_le, iN_toInt ha, iN_toInt hb]
theorem iN_eq {a b : Int} (ha : R32 a) (hb : R32 b) : iN a = iN b ↔ a = b := by
  rw [← Int32.toInt_inj, iN_toInt ha, iN_toInt hb]
theorem iN_0 : iN 0 = 0 := by decide
theorem R32_0 : R32 0 := ⟨by decide, by decide⟩
theorem iN_clamp {z : Int} (h : R32 z) : (iN z).toNatClampNeg = z.toNat := by
  show (iN z).toInt.toNat = z.toNat
  rw [iN_toInt h]
theorem iN_in {z : Int} {n : Nat} (h0 : 0 ≤ z) (h1 : z < n) (hn : n ≤ 2147483647) : vp_in (iN z) n := by
  rw [vp_in_iff, iN_toInt ⟨by omega, by omega⟩]
  exact ⟨h0, h1⟩
theorem iN_div {a b : Int} (ha : 0 ≤ a) (ha2 : a ≤ 2147483647) (hb : 0 < b) (hb2 : b ≤ 2147483647) : iN a / iN b = iN (a / b) := by
  have h := Int32.ofInt_tdiv (a := a) (b := b) (by show (-2147483648 : Int) ≤ a; omega) (by show a ≤ (2147483647 : Int); omega) (by show (-2147483648 : Int) ≤ b; omega) (by show b ≤ (2147483647 : Int); omega)
  rw [Int.tdiv_eq_ediv_of_nonneg ha] at h
  exact h.symm
theorem iN_bool {z : Int} (h : z = 0 ∨ z = 1) : narrow .boolean (.int (iN z)) = .int (iN z) ∧ fits .boolean (.int (iN z)) = true := by
  rcases h with rfl | rfl <;> exact ⟨rfl, rfl⟩
theorem iN_char {z : Int} (h0 : 0 ≤ z) (h1 : z < 65536) : narrow .char (.int (iN z)) = .int (iN z) ∧ fits .char (.int (iN z)) = true := by
  have e : iN z = nI z.toNat := by
    have : z = (z.toNat : Int) := by omega
    rw [this]
    show Int32.ofInt _ = Int32.ofNat _
    rw [Int32.ofInt_eq_ofNat]
    rfl
  rw [e]
  exact pk_charN (by omega)
def lI (z : Int) : Int64 := Int64.ofInt z
theorem lI_add (a b : Int) : lI a + lI b = lI (a + b) := (Int64.ofInt_add a b).symm
theorem lI_mul (a b : Int) : lI a * lI b = lI (a * b) := (Int64.ofInt_mul a b).symm
theorem iN_l {a : Int} (h : R32 a) : (iN a).toInt64 = lI a := by
  have h1 := h.1
  have h2 := h.2
  exact Int32.toInt64_ofInt (by show (-2147483648 : Int) ≤ a; omega) (by show a ≤ (2147483647 : Int); omega)
theorem lI_eq {a b : Int} (ha : R32 a) (hb : R32 b) : lI a = lI b ↔ a = b := by
  have h1 := ha.1; have h2 := ha.2; have h3 := hb.1; have h4 := hb.2
  constructor
  · intro h
    have := congrArg Int64.toInt h
    rw [show (lI a).toInt = a from Int64.toInt_ofInt_of_le (by omega) (by omega), show (lI b).toInt = b from Int64.toInt_ofInt_of_le (by omega) (by omega)] at this
    exact this
  · rintro rfl; rfl
/-! ===== the world: numbered cells; what each holds ===== -/
abbrev St : Type := (Nat → Nat → Int) × Int × UInt64
abbrev Geo : Type := va_G × (Nat → ClassId) × (Nat → Nat) × Nat × Nat
def gD (g : Geo) : va_G := g.1
def gc (g : Geo) (k : Nat) : ClassId := g.2.1 k
def ga (g : Geo) (n : Nat) : Nat := g.2.2.1 n
def gh (g : Geo) : Nat := g.2.2.2.1
def gp (g : Geo) : Nat := g.2.2.2.2
def gA (g : Geo) : Nat → Prop := fun q => gh g ≤ q
/-- a row with one place changed -/
def ur (f : Nat → Int) (k : Nat) (v : Int) : Nat → Int := fun j => if j = k then v else f j
def sw (σ : St) (n k : Nat) (v : Int) : St := (fun a => if a = n then ur (σ.1 n) k v else σ.1 a, σ.2)
theorem sw_same (σ : St) (n k : Nat) (v : Int) : (sw σ n k v).1 n k = v := by simp [sw, ur]
theorem sw_row (σ : St) (n k : Nat) (v : Int) : (sw σ n k v).1 n = ur (σ.1 n) k v := by simp [sw]
theorem sw_ne {σ : St} {n k a : Nat} {v : Int} (h : a ≠ n) : (sw σ n k v).1 a = σ.1 a := by simp [sw, h]
theorem sw_get (σ : St) (n k : Nat) (v : Int) (a b : Nat) : (sw σ n k v).1 a b = if a = n ∧ b = k then v else σ.1 a b := by
  by_cases ha : a = n
  · subst ha
    by_cases hb : b = k
    · subst hb; simp [sw, ur]
    · simp [sw, ur, hb]
  · simp [sw, ha]
theorem sw_2 (σ : St) (n k : Nat) (v : Int) : (sw σ n k v).2 = σ.2 := rfl
/-- the kind of a cell: 0..7 the objects' classes (vwCl), 8 char[], 9 int[], 10 boolean[], 12 long[], 13 double[], 14 Track[], 15 Car[], 16 Lap[] -/
def kd (n : Nat) : Nat :=
  if n < 7 then (if n = 0 then 6 else if n = 1 then 14 else if n = 2 then 15 else if n = 3 then 8 else if n = 4 then 3 else if n = 5 then 0 else 16)
  else if n < 67 then (if n % 2 = 1 then 2 else 8)
  else if n < 73 then (if n = 67 then 4 else 9)
  else if n < 85 then (if n % 3 = 1 then 5 else 9)
  else if n < 89 then 1
  else if n = 89 then 7
  else if n = 96 then 8 else if n = 97 then 8 else if n = 107 then 10 else if n = 110 then 12 else if n = 111 then 13 else 9
def ln (n : Nat) : Nat :=
  if n < 7 then (if n = 3 then 60 else if n = 6 then 30 else 4)
  else if n < 67 then 60
  else if n < 73 then (if n = 68 then 10 else if n = 70 then 60 else 6)
  else if n < 89 then 12
  else if n < 96 then (if n = 91 then 48 else if n = 92 then 48 else 4)
  else if n = 96 then 60 else if n = 97 then 1800 else if n < 108 then 30 else if n < 110 then 10 else 1
def flds (g : Geo) (f : Nat → Int) (ci n : Nat) : List Value :=
  match ci with
  | 0 => [.ref (ga g 6), .int (iN (f 1))]
  | 1 => [.int (iN (f 0)), .int (iN (f 1)), .int (iN (f 2))]
  | 2 => [.ref (ga g (n + 1)), .int (iN (f 1)), .int (iN (f 2)), .int (iN (f 3)), .int (iN (f 4)), .int (iN (f 5)), .int (iN (f 6)), .int (iN (f 7)), .int (iN (f 8)), .int (iN (f 9)), .int (iN (f 10)), .int (iN (f 11)), .int (iN (f 12))]
  | 3 => [.int (iN (f 0)), .int (iN (f 1)), .int (iN (f 2)), .int (iN (f 3)), .int (iN (f 4))]
  | 4 => [.ref (ga g 68), .int (iN (f 1)), .int (iN (f 2)), .int (iN (f 3)), .ref (ga g 69), .ref (ga g 70), .ref (ga g 71), .ref (ga g 72)]
  | 5 => [.ref (ga g (n + 1)), .ref (ga g (n + 2)), .int (iN (f 2)), .int (iN (f 3)), .int (iN (f 4))]
  | 6 => [.ref (ga g 1), .int (iN (f 1)), .ref (ga g 2), .int (iN (f 3)), .ref (ga g 3), .int (iN (f 5)), .ref (ga g 4), .ref (ga g 5), .ref (ga g 67)]
  | _ => [.int (iN (f 0)), .int (iN (f 1)), .ref (ga g 90), .ref (ga g 91), .ref (ga g 92), .int (iN (f 5)), .ref (ga g 93), .ref (ga g 94), .ref (ga g 95), .int (iN (f 9)), .ref (ga g 96), .int (iN (f 11)), .ref (ga g 97), .ref (ga g 98), .ref (ga g 99), .ref (ga g 100), .ref (ga g 101), .ref (ga g 102), .ref (ga g 103), .ref (ga g 104), .ref (ga g 105), .ref (ga g 106), .ref (ga g 107), .int (iN (f 23)), .int (iN (f 24)), .ref (ga g 108), .int (iN (f 26)), .ref (ga g 109), .int (iN (f 28)), .int (iN (f 29)), .int (iN (f 30)), .int (iN (f 31))]
def cL (g : Geo) (f : Nat → Int) (x : Int × UInt64) (n : Nat) : va_E :=
  if kd n < 8 then .inr (kd n, flds g f (kd n) n)
  else if kd n < 11 then .inl (gc g (kd n), ln n, .inl (fun k => iN (f k)))
  else if kd n = 12 then .inl (gc g 12, 1, .inr (.inl (fun _ => lI x.1)))
  else if kd n = 13 then .inl (gc g 13, 1, .inr (.inr (.inr (.inl (fun _ => x.2)))))
  else if kd n = 14 then .inl (gc g 14, 4, .inr (.inr (.inr (.inr (fun k => some (ga g (73 + 3 * k)))))))
  else if kd n = 15 then .inl (gc g 15, 4, .inr (.inr (.inr (.inr (fun k => some (ga g (85 + k)))))))
  else .inl (gc g 16, 30, .inr (.inr (.inr (.inr (fun k => some (ga g (7 + 2 * k)))))))
def cells (g : Geo) (σ : St) : va_W := (List.range 112).map (fun n => (ga g n, cL g (σ.1 n) σ.2 n))
theorem cells_at {g : Geo} {σ : St} {n : Nat} (h : n < 112) : (cells g σ)[n]? = some (ga g n, cL g (σ.1 n) σ.2 n) := by
  simp [cells, h]
theorem cells_len {g : Geo} {σ : St} : (cells g σ).length = 112 := by simp [cells]
theorem cells_set {g : Geo} {σ : St} {n k : Nat} {v : Int} {e : va_E} (h : n < 112) (he : cL g (ur (σ.1 n) k v) σ.2 n = e) : (cells g σ).set n (ga g n, e) = cells g (sw σ n k v) := by
  subst he
  apply List.ext_getElem?
  intro j
  by_cases hj : j = n
  · subst hj
    rw [List.getElem?_set_self (by rw [cells_len]; exact h), cells_at h, sw_row, sw_2]
  · rw [List.getElem?_set_ne (Ne.symm hj)]
    by_cases hl : j < 112
    · rw [cells_at hl, cells_at hl, sw_ne hj, sw_2]
    · rw [List.getElem?_eq_none (by rw [cells_len]; omega), List.getElem?_eq_none (by rw [cells_len]; omega)]
theorem cells_set2 {g : Geo} {σ : St} {n : Nat} {x : Int × UInt64} {e : va_E} (h : n < 112) (he : cL g (σ.1 n) x n = e) (ho : ∀ m, m < 112 → m ≠ n → cL g (σ.1 m) x m = cL g (σ.1 m) σ.2 m) : (cells g σ).set n (ga g n, e) = cells g (σ.1, x) := by
  subst he
  apply List.ext_getElem?
  intro j
  by_cases hj : j = n
  · subst hj
    rw [List.getElem?_set_self (by rw [cells_len]; exact h), cells_at h]
  · rw [List.getElem?_set_ne (Ne.symm hj)]
    by_cases hl : j < 112
    · rw [cells_at hl, cells_at hl, ho j hl hj]
    · rw [List.getElem?_eq_none (by rw [cells_len]; omega), List.getElem?_eq_none (by rw [cells_len]; omega)]
theorem cL_obj {g : Geo} {f : Nat → Int} {x : Int × UInt64} {n ci : Nat} (h : kd n = ci) (h8 : ci < 8) : cL g f x n = .inr (ci, flds g f ci n) := by
  subst h
  simp [cL, h8]
theorem cL_arr {g : Geo} {f : Nat → Int} {x : Int × UInt64} {n ci N : Nat} (h : kd n = ci) (h8 : ¬ ci < 8) (h11 : ci < 11) (hN : ln n = N) : cL g f x n = .inl (gc g ci, N, .inl (fun k => iN (f k))) := by
  subst h; subst hN
  simp [cL, h8, h11]
theorem cL_14 {g : Geo} {f : Nat → Int} {x : Int × UInt64} {n : Nat} (h : kd n = 14) : cL g f x n = .inl (gc g 14, 4, .inr (.inr (.inr (.inr (fun k => some (ga g (73 + 3 * k))))))) := by simp [cL, h]
theorem cL_15 {g : Geo} {f : Nat → Int} {x : Int × UInt64} {n : Nat} (h : kd n = 15) : cL g f x n = .inl (gc g 15, 4, .inr (.inr (.inr (.inr (fun k => some (ga g (85 + k))))))) := by simp [cL, h]
theorem cL_16 {g : Geo} {f : Nat → Int} {x : Int × UInt64} {n : Nat} (h : kd n = 16) : cL g f x n = .inl (gc g 16, 30, .inr (.inr (.inr (.inr (fun k => some (ga g (7 + 2 * k))))))) := by simp [cL, h]
theorem kd_lap {j : Nat} (h : j < 30) : kd (7 + 2 * j) = 2 := by
  unfold kd
  rw [if_neg (by omega), if_pos (by omega), if_pos (by omega)]
theorem kd_in {j : Nat} (h : j < 30) : kd (7 + 2 * j + 1) = 8 := by
  unfold kd
  rw [if_neg (by omega), if_pos (by omega), if_neg (by omega)]
theorem ln_in {j : Nat} (h : j < 30) : ln (7 + 2 * j + 1) = 60 := by
  unfold ln
  rw [if_neg (by omega), if_pos (by omega)]
theorem kd_tr {t : Nat} (h : t < 4) : kd (73 + 3 * t) = 5 := by
  unfold kd
  rw [if_neg (by omega), if_neg (by omega), if_neg (by omega), if_pos (by omega), if_pos (by omega)]
theorem kd_tr1 {t : Nat} (h : t < 4) : kd (73 + 3 * t + 1) = 9 := by
  unfold kd
  rw [if_neg (by omega), if_neg (by omega), if_neg (by omega), if_pos (by omega), if_neg (by omega)]
theorem kd_tr2 {t : Nat} (h : t < 4) : kd (73 + 3 * t + 2) = 9 := by
  unfold kd
  rw [if_neg (by omega), if_neg (by omega), if_neg (by omega), if_pos (by omega), if_neg (by omega)]
theorem ln_tr1 {t : Nat} (h : t < 4) : ln (73 + 3 * t + 1) = 12 := by
  unfold ln
  rw [if_neg (by omega), if_neg (by omega), if_neg (by omega), if_pos (by omega)]
theorem ln_tr2 {t : Nat} (h : t < 4) : ln (73 + 3 * t + 2) = 12 := by
  unfold ln
  rw [if_neg (by omega), if_neg (by omega), if_neg (by omega), if_pos (by omega)]
theorem kd_car {c : Nat} (h : c < 4) : kd (85 + c) = 1 := by
  unfold kd
  rw [if_neg (by omega), if_neg (by omega), if_neg (by omega), if_neg (by omega), if_pos (by omega)]
/-- what the tables say of the arrays' classes -/
def tys (g : Geo) : List (ClassId × FieldType) := [(gc g 8, .char), (gc g 9, .int), (gc g 10, .boolean), (gc g 12, .long), (gc g 13, .double), (gc g 14, .object RX5), (gc g 15, .object RX1), (gc g 16, .object RX2)]
/-- the cells are apart, and newer than the law's entry -/
def GOK (g : Geo) : Prop := (∀ a b, a < 112 → b < 112 → ga g a = ga g b → a = b) ∧ ∀ a, a < 112 → gh g ≤ ga g a
theorem GOK.D {g : Geo} (h : GOK g) (σ : St) : va_D (gA g) (cells g σ) := by
  have key : ∀ (k : Nat) (q : Nat × va_E), (cells g σ)[k]? = some q → k < 112 ∧ q.1 = ga g k := by
    intro k q hk
    have hl : k < 112 := by
      have := (List.getElem?_eq_some_iff.mp hk).1
      rwa [cells_len] at this
    rw [cells_at hl] at hk
    cases hk
    exact ⟨hl, rfl⟩
  refine ⟨fun i j p q hi hj hpq => ?_, fun k q hk => ?_⟩
  · obtain ⟨a1, a2⟩ := key i p hi
    obtain ⟨b1, b2⟩ := key j q hj
    exact h.1 i j a1 b1 (by rw [← a2, ← b2]; exact hpq)
  · obtain ⟨a1, a2⟩ := key k q hk
    rw [a2]
    exact h.2 k a1
def worthP (j : Nat) : Int := if j = 0 then 10 else if j = 1 then 8 else if j = 2 then 6 else if j = 3 then 5 else if j = 4 then 4 else 3
/-- what stays outside the world: the points' row, the statics and texts that a throw needs -/
def Sta (g : Geo) (U : State) (H : Heap) : Prop :=
  va_Z "Ghostracer" "POINTS" "[I" (.ref (gp g)) (gA g) U H ∧ va_T .int (gp g) 6 (fun j => .int (iN (worthP j))) (gA g) U H ∧
  vx_Zq Bundle.tN "UNASSIGNED_STACK" Bundle.steD (gA g) U H ∧ vx_Zq Bundle.tN "SUPPRESSED_SENTINEL" Bundle.listD (gA g) U H

def texts : List (Nat × String) := [(54, "there are 4 tracks"), (69, "the length or the limit is out of range"), (78, "a lap was driven on the track"), (84, "the track has 12 stretches"), (93, "a number of the car is out of range"), (98, "there are 4 cars"), (111, "no such place"), (118, "no such input, or so often it is not typed"), (123, "more than 60 inputs"), (137, "no such ghost on this track that stands"), (146, "there are 30 laps"), (183, "the track has no stretches"), (192, "the lap would not be over"), (206, "no such input"), (211, "no such tick"), (223, "no such thing of a lap"), (229, "the lap has no ghost"), (234, "no lap of the track stands"), (239, "the lap is stored whole"), (253, "the lap is struck out"), (259, "the lap stands"), (264, "the penalty is out of range"), (272, "there are 10 rounds"), (280, "no round is open"), (291, "no such round"), (302, "the driver has no lap in the round"), (304, "so many rounds are not dropped"), (326, "there are no laps"), (331, "no lap stands"), (333, "no such track"), (335, "no such car"), (337, "no such lap"), (339, "no such driver")]


def excs : List String := ["java/lang/IllegalStateException", "java/lang/IllegalArgumentException", "java/lang/IndexOutOfBoundsException", "java/lang/UnsupportedOperationException", "java/util/NoSuchElementException"]
def dcls : List MethodName := [Bundle.initS "java/lang/RuntimeException", Bundle.initS "java/lang/Exception", Bundle.initS Bundle.tN]
/-- what the tables say of the exceptions beside the words that a call carries -/
def Wx (U : State) : Prop := (∀ E ∈ excs, va_Nw (.castable E E) U) ∧ (∀ x ∈ dcls, va_Nw (.declares x) U) ∧ ∀ a ∈ excs, ∀ b ∈ excs, a ≠ b → va_Nc a b U
theorem Wx.warm {s U : State} (hW : s.WarmedH U.vm) (h : Wx s) : Wx U := ⟨fun E hE => va_Nw.warmC hW (h.1 E hE), fun x hx => va_Nw.warmD hW (h.2.1 x hx), fun a ha b hb n => va_Nc.moved hW.alike (h.2.2 a ha b hb n)⟩
theorem Wx.same {s U : State} (hv : s.vm = U.vm) (h : Wx s) : Wx U := ⟨fun E hE => va_Nw.same rfl hv (h.1 E hE), fun x hx => va_Nw.same rfl hv (h.2.1 x hx), fun a ha b hb n => va_Nc.moved (by rw [hv]; exact Vm.Alike.refl _) (h.2.2 a ha b hb n)⟩
def WK (g : Geo) (U : State) : Prop := va_K (gD g) vwCl (tys g) U ∧ gh g ≤ U.heap.size ∧ Sta g U U.heap ∧ (∀ q ∈ texts, ∃ a, vk_R "Ghostracer" q.1 q.2 a U) ∧ Wx U
def World (g : Geo) (σ : St) : State → Prop := fun U => va_P (gD g) vwCl (cells g σ) U.heap ∧ WK g U ∧ GOK g
def Bw (g : Geo) (σ : St) : State → Prop := fun t => va_P (gD g) vwCl (cells g σ) t.heap
theorem Sta.kept {g : Geo} {u U : State} {H H1 : Heap} (hvm : u.vm.Alike U.vm) (hq : ∀ a : Nat, a < H.size → ¬ gA g a → H1[a]? = H[a]?) (h : Sta g u H) : Sta g U H1 :=
  ⟨va_Z.moved hvm (h.1.kept hq), va_T.moved hvm (h.2.1.kept hq), vx_Zq.moved hvm (h.2.2.1.kept hq), vx_Zq.moved hvm (h.2.2.2.kept hq)⟩
theorem World.blind {g : Geo} {σ : St} {av : List Value} : FrameBlind (va_Pc av (World g σ)) := by
  intro a U gf mk h
  obtain ⟨h1, h2, ⟨h3, h4, h5, h6, h8⟩, h7⟩ := h
  exact ⟨h1, h2, ⟨va_K.moved (u := U) (U := U.calling gf mk a) (Vm.Alike.refl U.vm) h3, h4, Sta.kept (u := U) (U := U.calling gf mk a) (Vm.Alike.refl U.vm) (fun _ _ _ => rfl) h5, fun q hq => by
    obtain ⟨b, hb⟩ := h6 q hq
    exact ⟨b, vk_R.same (u := U) rfl hb⟩, Wx.same (s := U) rfl h8⟩, h7⟩
theorem World.call {g : Geo} {σ : St} {s U : State} {H : Heap} {locs : List Loc} (hk : WK g s) (hg : GOK g) (hP : va_P (gD g) vwCl (cells g σ) H) (hS : va_S (gA g) s.heap H locs) (hU : U.heap = H) (hW : s.WarmedH U.vm) : World g σ U := by
  obtain ⟨h3, h4, h5, h6, h8⟩ := hk
  subst hU
  refine ⟨hP, ⟨va_K.moved hW.alike h3, Nat.le_trans h4 hS.1, Sta.kept hW.alike (fun a h1 h2 => hS.2.1 a h1 h2) h5, fun q hq => ?_, Wx.warm hW h8⟩, hg⟩
  obtain ⟨b, hb⟩ := h6 q hq
  exact ⟨b, vk_R.warm hW hb⟩
/-! ===== the judgement V: W, with the heap, the written places and the locals' row left open ===== -/
def Cx (g : Geo) (p : Program) (l : Launch) (R : Room) (s : State) (m : MethodId) (args : Array Value) (meth : Method) (c : Code) (cc : ByteArray) (nL : Nat) (own : String) (Ts : List Cond) : Prop :=
  CallFix p m c cc nL s args Ts own ∧ WK g s ∧ GOK g ∧ l.stackTraces = false ∧ meth.locks = false
def V (g : Geo) (p : Program) (l : Launch) (e : Env) (R : Room) (s : State) (m : MethodId) (args : Array Value) (below : List Frame) (meth : Method) (c : Code) (nL : Nat) (k n : Nat) (Q : State → Prop) (σ : St) (pc : Nat) (lv : List (Nat × Value)) (st : List Value) : Prop :=
  ∀ (H : Heap) (locs : List Loc) (ls : Array Slot), va_P (gD g) vwCl (cells g σ) H → va_S (gA g) s.heap H locs → lv_has ls nL lv → W p l e R s m args below meth c H locs k n Q (F0 m pc ls st)
section VR
variable {g : Geo} {p : Program} {l : Launch} {e : Env} {R : Room} {s : State} {m : MethodId} {args : Array Value} {below : List Frame} {meth : Method} {c : Code} {cc : ByteArray} {nL : Nat} {own : String} {Ts : List Cond} {k n : Nat} {Q : State → Prop} {σ : St} {pc : Nat} {lv lv' : List (Nat × Value)} {st : List Value}
theorem V_sub (ks : List Nat) (hl : lv_pick lv ks = lv') (kk : V g p l e R s m args below meth c nL k n Q σ pc lv' st) : V g p l e R s m args below meth c nL k n Q σ pc lv st :=
  fun H locs ls hP hS h => kk H locs ls hP hS (lv_sub h ks hl)
theorem V_st {σ' : St} (h : σ = σ') (kk : V g p l e R s m args below meth c nL k n Q σ' pc lv st) : V g p l e R s m args below meth c nL k n Q σ pc lv st := h ▸ kk
theorem V_widen {k' n' : Nat} (h1 : k ≤ k') (h2 : n ≤ n') (kk : V g p l e R s m args below meth c nL k' n' Q σ pc lv st) : V g p l e R s m args below meth c nL k n Q σ pc lv st :=
  fun H locs ls hP hS h => W.widen h1 h2 (kk H locs ls hP hS h)

theorem V_iconst (X : Cx g p l R s m args meth c cc nL own Ts) {z : Int} (d : decode cc pc = .ok (.iconst z, 1)) (kk : V g p l e R s m args below meth c nL k n Q σ (pc + 1) lv (.int (iN z) :: st)) : V g p l e R s m args below meth c nL k n Q σ pc lv (st) := by
  obtain ⟨⟨hx, hb, hml, hown, hts⟩, hwk, hg, hl9, hlk⟩ := X
  intro H locs ls hP hS hl
  exact lv_iconst hx hb d rfl (kk H locs ls hP hS hl)

theorem V_bipush (X : Cx g p l R s m args meth c cc nL own Ts) {z : Int} (h : (Int8.ofInt z).toInt32 = iN z) (d : decode cc pc = .ok (.bipush z, 2)) (kk : V g p l e R s m args below meth c nL k n Q σ (pc + 2) lv (.int (iN z) :: st)) : V g p l e R s m args below meth c nL k n Q σ pc lv (st) := by
  obtain ⟨⟨hx, hb, hml, hown, hts⟩, hwk, hg, hl9, hlk⟩ := X
  intro H locs ls hP hS hl
  exact lv_bipush hx hb d h (kk H locs ls hP hS hl)

theorem V_sipush (X : Cx g p l R s m args meth c cc nL own Ts) {z : Int} (h : (Int16.ofInt z).toInt32 = iN z) (d : decode cc pc = .ok (.sipush z, 3)) (kk : V g p l e R s m args below meth c nL k n Q σ (pc + 3) lv (.int (iN z) :: st)) : V g p l e R s m args below meth c nL k n Q σ pc lv (st) := by
  obtain ⟨⟨hx, hb, hml, hown, hts⟩, hwk, hg, hl9, hlk⟩ := X
  intro H locs ls hP hS hl
  exact lv_sipush hx hb d h (kk H locs ls hP hS hl)

theorem V_ldc (X : Cx g p l R s m args meth c cc nL own Ts) {i : Nat} {z : Int} {v : Int32} (hc : Jvm.Cond.constant own i v ∈ Ts) (hv : v = iN z) (d : decode cc pc = .ok (.ldc i, 2)) (kk : V g p l e R s m args below meth c nL k n Q σ (pc + 2) lv (.int (iN z) :: st)) : V g p l e R s m args below meth c nL k n Q σ pc lv (st) := by
  obtain ⟨⟨hx, hb, hml, hown, hts⟩, hwk, hg, hl9, hlk⟩ := X
  intro H locs ls hP hS hl
  subst hv
  exact lv_ldc hx hb hown (hts _ hc) d (kk H locs ls hP hS hl)

theorem V_lconst (X : Cx g p l R s m args meth c cc nL own Ts) {i : Fin 2} {z : Int} (hv : Int64.ofNat (i : Nat) = lI z) (d : decode cc pc = .ok (.lconst i, 1)) (kk : V g p l e R s m args below meth c nL k n Q σ (pc + 1) lv (.long (lI z) :: st)) : V g p l e R s m args below meth c nL k n Q σ pc lv (st) := by
  obtain ⟨⟨hx, hb, hml, hown, hts⟩, hwk, hg, hl9, hlk⟩ := X
  intro H locs ls hP hS hl
  exact lv_lconst hx hb d hv (kk H locs ls hP hS hl)

theorem V_ldc2 (X : Cx g p l R s m args meth c cc nL own Ts) {i : Nat} {z : Int} {v : Int64} (hc : Jvm.Cond.constantLong own i v ∈ Ts) (hv : v = lI z) (d : decode cc pc = .ok (.ldc2_w i, 3)) (kk : V g p l e R s m args below meth c nL k n Q σ (pc + 3) lv (.long (lI z) :: st)) : V g p l e R s m args below meth c nL k n Q σ pc lv (st) := by
  obtain ⟨⟨hx, hb, hml, hown, hts⟩, hwk, hg, hl9, hlk⟩ := X
  intro H locs ls hP hS hl
  subst hv
  exact lv_ldc2 hx hb hown (hts _ hc) d (kk H locs ls hP hS hl)

theorem V_iload_n (X : Cx g p l R s m args meth c cc nL own Ts) (j : Nat) {i : Nat} {x : Int32} (hj : lv[j]? = some (i, .int x)) {i4 : Fin 4} (d : decode cc pc = .ok (.iload_n i4, 1)) (hi : (i4 : Nat) = i) (kk : V g p l e R s m args below meth c nL k n Q σ (pc + 1) lv (.int x :: st)) : V g p l e R s m args below meth c nL k n Q σ pc lv (st) := by
  obtain ⟨⟨hx, hb, hml, hown, hts⟩, hwk, hg, hl9, hlk⟩ := X
  intro H locs ls hP hS hl
  exact lv_iload_n hx hb d hi (lv_at hl j hj) (kk H locs ls hP hS hl)

theorem V_iload (X : Cx g p l R s m args meth c cc nL own Ts) (j : Nat) {i : Nat} {x : Int32} (hj : lv[j]? = some (i, .int x)) (d : decode cc pc = .ok (.iload i, 2)) (kk : V g p l e R s m args below meth c nL k n Q σ (pc + 2) lv (.int x :: st)) : V g p l e R s m args below meth c nL k n Q σ pc lv (st) := by
  obtain ⟨⟨hx, hb, hml, hown, hts⟩, hwk, hg, hl9, hlk⟩ := X
  intro H locs ls hP hS hl
  exact lv_iload hx hb d (lv_at hl j hj) (kk H locs ls hP hS hl)

theorem V_istore_n (X : Cx g p l R s m args meth c cc nL own Ts) (lv1 : List (Nat × Value)) {i : Nat} {x : Int32} {i4 : Fin 4} (d : decode cc pc = .ok (.istore_n i4, 1)) (hi : (i4 : Nat) = i) (hn : i < nL) (hq : (i, Value.int x) :: lv.filter (fun q => !(q.1 == i) && !(q.1 + 1 == i && q.2.category == 2)) = lv1) (kk : V g p l e R s m args below meth c nL k n Q σ (pc + 1) lv1 (st)) : V g p l e R s m args below meth c nL k n Q σ pc lv (.int x :: st) := by
  obtain ⟨⟨hx, hb, hml, hown, hts⟩, hwk, hg, hl9, hlk⟩ := X
  intro H locs ls hP hS hl
  exact lv_istore_n hx hb d hi hl hn hq (fun ls1 hl1 => kk H locs ls1 hP hS hl1)

theorem V_istore (X : Cx g p l R s m args meth c cc nL own Ts) (lv1 : List (Nat × Value)) {i : Nat} {x : Int32} (d : decode cc pc = .ok (.istore i, 2)) (hn : i < nL) (hq : (i, Value.int x) :: lv.filter (fun q => !(q.1 == i) && !(q.1 + 1 == i && q.2.category == 2)) = lv1) (kk : V g p l e R s m args below meth c nL k n Q σ (pc + 2) lv1 (st)) : V g p l e R s m args below meth c nL k n Q σ pc lv (.int x :: st) := by
  obtain ⟨⟨hx, hb, hml, hown, hts⟩, hwk, hg, hl9, hlk⟩ := X
  intro H locs ls hP hS hl
  exact lv_istore hx hb d hl hn hq (fun ls1 hl1 => kk H locs ls1 hP hS hl1)

theorem V_aload_n (X : Cx g p l R s m args meth c cc nL own Ts) (j : Nat) {i : Nat} {x : Nat} (hj : lv[j]? = some (i, .ref x)) {i4 : Fin 4} (d : decode cc pc = .ok (.aload_n i4, 1)) (hi : (i4 : Nat) = i) (kk : V g p l e R s m args below meth c nL k n Q σ (pc + 1) lv (.ref x :: st)) : V g p l e R s m args below meth c nL k n Q σ pc lv (st) := by
  obtain ⟨⟨hx, hb, hml, hown, hts⟩, hwk, hg, hl9, hlk⟩ := X
  intro H locs ls hP hS hl
  exact lv_aload_n hx hb d hi (lv_at hl j hj) (kk H locs ls hP hS hl)

theorem V_aload (X : Cx g p l R s m args meth c cc nL own Ts) (j : Nat) {i : Nat} {x : Nat} (hj : lv[j]? = some (i, .ref x)) (d : decode cc pc = .ok (.aload i, 2)) (kk : V g p l e R s m args below meth c nL k n Q σ (pc + 2) lv (.ref x :: st)) : V g p l e R s m args below meth c nL k n Q σ pc lv (st) := by
  obtain ⟨⟨hx, hb, hml, hown, hts⟩, hwk, hg, hl9, hlk⟩ := X
  intro H locs ls hP hS hl
  exact lv_aload hx hb d (lv_at hl j hj) (kk H locs ls hP hS hl)

theorem V_astore_n (X : Cx g p l R s m args meth c cc nL own Ts) (lv1 : List (Nat × Value)) {i : Nat} {x : Nat} {i4 : Fin 4} (d : decode cc pc = .ok (.astore_n i4, 1)) (hi : (i4 : Nat) = i) (hn : i < nL) (hq : (i, Value.ref x) :: lv.filter (fun q => !(q.1 == i) && !(q.1 + 1 == i && q.2.category == 2)) = lv1) (kk : V g p l e R s m args below meth c nL k n Q σ (pc + 1) lv1 (st)) : V g p l e R s m args below meth c nL k n Q σ pc lv (.ref x :: st) := by
  obtain ⟨⟨hx, hb, hml, hown, hts⟩, hwk, hg, hl9, hlk⟩ := X
  intro H locs ls hP hS hl
  exact lv_astore_n hx hb d hi hl hn hq (fun ls1 hl1 => kk H locs ls1 hP hS hl1)

theorem V_astore (X : Cx g p l R s m args meth c cc nL own Ts) (lv1 : List (Nat × Value)) {i : Nat} {x : Nat} (d : decode cc pc = .ok (.astore i, 2)) (hn : i < nL) (hq : (i, Value.ref x) :: lv.filter (fun q => !(q.1 == i) && !(q.1 + 1 == i && q.2.category == 2)) = lv1) (kk : V g p l e R s m args below meth c nL k n Q σ (pc + 2) lv1 (st)) : V g p l e R s m args below meth c nL k n Q σ pc lv (.ref x :: st) := by
  obtain ⟨⟨hx, hb, hml, hown, hts⟩, hwk, hg, hl9, hlk⟩ := X
  intro H locs ls hP hS hl
  exact lv_astore hx hb d hl hn hq (fun ls1 hl1 => kk H locs ls1 hP hS hl1)

theorem V_lload_n (X : Cx g p l R s m args meth c cc nL own Ts) (j : Nat) {i : Nat} {x : Int64} (hj : lv[j]? = some (i, .long x)) {i4 : Fin 4} (d : decode cc pc = .ok (.lload_n i4, 1)) (hi : (i4 : Nat) = i) (kk : V g p l e R s m args below meth c nL k n Q σ (pc + 1) lv (.long x :: st)) : V g p l e R s m args below meth c nL k n Q σ pc lv (st) := by
  obtain ⟨⟨hx, hb, hml, hown, hts⟩, hwk, hg, hl9, hlk⟩ := X
  intro H locs ls hP hS hl
  exact lv_lload_n hx hb d hi (lv_at hl j hj) (kk H locs ls hP hS hl)

theorem V_lload (X : Cx g p l R s m args meth c cc nL own Ts) (j : Nat) {i : Nat} {x : Int64} (hj : lv[j]? = some (i, .long x)) (d : decode cc pc = .ok (.lload i, 2)) (kk : V g p l e R s m args below meth c nL k n Q σ (pc + 2) lv (.long x :: st)) : V g p l e R s m args below meth c nL k n Q σ pc lv (st) := by
  obtain ⟨⟨hx, hb, hml, hown, hts⟩, hwk, hg, hl9, hlk⟩ := X
  intro H locs ls hP hS hl
  exact lv_lload hx hb d (lv_at hl j hj) (kk H locs ls hP hS hl)

theorem V_lstore_n (X : Cx g p l R s m args meth c cc nL own Ts) (lv1 : List (Nat × Value)) {i : Nat} {x : Int64} {i4 : Fin 4} (d : decode cc pc = .ok (.lstore_n i4, 1)) (hi : (i4 : Nat) = i) (hn : i + 1 < nL) (hq : (i, Value.long x) :: lv.filter (fun q => !(q.1 == i) && (!(q.1 == i + 1) && !(q.1 + 1 == i && q.2.category == 2))) = lv1) (kk : V g p l e R s m args below meth c nL k n Q σ (pc + 1) lv1 (st)) : V g p l e R s m args below meth c nL k n Q σ pc lv (.long x :: st) := by
  obtain ⟨⟨hx, hb, hml, hown, hts⟩, hwk, hg, hl9, hlk⟩ := X
  intro H locs ls hP hS hl
  exact lv_lstore_n hx hb d hi hl hn hq (fun ls1 hl1 => kk H locs ls1 hP hS hl1)

theorem V_lstore (X : Cx g p l R s m args meth c cc nL own Ts) (lv1 : List (Nat × Value)) {i : Nat} {x : Int64} (d : decode cc pc = .ok (.lstore i, 2)) (hn : i + 1 < nL) (hq : (i, Value.long x) :: lv.filter (fun q => !(q.1 == i) && (!(q.1 == i + 1) && !(q.1 + 1 == i && q.2.category == 2))) = lv1) (kk : V g p l e R s m args below meth c nL k n Q σ (pc + 2) lv1 (st)) : V g p l e R s m args below meth c nL k n Q σ pc lv (.long x :: st) := by
  obtain ⟨⟨hx, hb, hml, hown, hts⟩, hwk, hg, hl9, hlk⟩ := X
  intro H locs ls hP hS hl
  exact lv_lstore hx hb d hl hn hq (fun ls1 hl1 => kk H locs ls1 hP hS hl1)

theorem V_fload_n (X : Cx g p l R s m args meth c cc nL own Ts) (j : Nat) {i : Nat} {x : UInt32} (hj : lv[j]? = some (i, .float x)) {i4 : Fin 4} (d : decode cc pc = .ok (.fload_n i4, 1)) (hi : (i4 : Nat) = i) (kk : V g p l e R s m args below meth c nL k n Q σ (pc + 1) lv (.float x :: st)) : V g p l e R s m args below meth c nL k n Q σ pc lv (st) := by
  obtain ⟨⟨hx, hb, hml, hown, hts⟩, hwk, hg, hl9, hlk⟩ := X
  intro H locs ls hP hS hl
  exact lv_fload_n hx hb d hi (lv_at hl j hj) (kk H locs ls hP hS hl)

theorem V_fload (X : Cx g p l R s m args meth c cc nL own Ts) (j : Nat) {i : Nat} {x : UInt32} (hj : lv[j]? = some (i, .float x)) (d : decode cc pc = .ok (.fload i, 2)) (kk : V g p l e R s m args below meth c nL k n Q σ (pc + 2) lv (.float x :: st)) : V g p l e R s m args below meth c nL k n Q σ pc lv (st) := by
  obtain ⟨⟨hx, hb, hml, hown, hts⟩, hwk, hg, hl9, hlk⟩ := X
  intro H locs ls hP hS hl
  exact lv_fload hx hb d (lv_at hl j hj) (kk H locs ls hP hS hl)

theorem V_fstore_n (X : Cx g p l R s m args meth c cc nL own Ts) (lv1 : List (Nat × Value)) {i : Nat} {x : UInt32} {i4 : Fin 4} (d : decode cc pc = .ok (.fstore_n i4, 1)) (hi : (i4 : Nat) = i) (hn : i < nL) (hq : (i, Value.float x) :: lv.filter (fun q => !(q.1 == i) && !(q.1 + 1 == i && q.2.category == 2)) = lv1) (kk : V g p l e R s m args below meth c nL k n Q σ (pc + 1) lv1 (st)) : V g p l e R s m args below meth c nL k n Q σ pc lv (.float x :: st) := by
  obtain ⟨⟨hx, hb, hml, hown, hts⟩, hwk, hg, hl9, hlk⟩ := X
  intro H locs ls hP hS hl
  exact lv_fstore_n hx hb d hi hl hn hq (fun ls1 hl1 => kk H locs ls1 hP hS hl1)

theorem V_fstore (X : Cx g p l R s m args meth c cc nL own Ts) (lv1 : List (Nat × Value)) {i : Nat} {x : UInt32} (d : decode cc pc = .ok (.fstore i, 2)) (hn : i < nL) (hq : (i, Value.float x) :: lv.filter (fun q => !(q.1 == i) && !(q.1 + 1 == i && q.2.category == 2)) = lv1) (kk : V g p l e R s m args below meth c nL k n Q σ (pc + 2) lv1 (st)) : V g p l e R s m args below meth c nL k n Q σ pc lv (.float x :: st) := by
  obtain ⟨⟨hx, hb, hml, hown, hts⟩, hwk, hg, hl9, hlk⟩ := X
  intro H locs ls hP hS hl
  exact lv_fstore hx hb d hl hn hq (fun ls1 hl1 => kk H locs ls1 hP hS hl1)

theorem V_dload_n (X : Cx g p l R s m args meth c cc nL own Ts) (j : Nat) {i : Nat} {x : UInt64} (hj : lv[j]? = some (i, .double x)) {i4 : Fin 4} (d : decode cc pc = .ok (.dload_n i4, 1)) (hi : (i4 : Nat) = i) (kk : V g p l e R s m args below meth c nL k n Q σ (pc + 1) lv (.double x :: st)) : V g p l e R s m args below meth c nL k n Q σ pc lv (st) := by
  obtain ⟨⟨hx, hb, hml, hown, hts⟩, hwk, hg, hl9, hlk⟩ := X
  intro H locs ls hP hS hl
  exact lv_dload_n hx hb d hi (lv_at hl j hj) (kk H locs ls hP hS hl)

theorem V_dload (X : Cx g p l R s m args meth c cc nL own Ts) (j : Nat) {i : Nat} {x : UInt64} (hj : lv[j]? = some (i, .double x)) (d : decode cc pc = .ok (.dload i, 2)) (kk : V g p l e R s m args below meth c nL k n Q σ (pc + 2) lv (.double x :: st)) : V g p l e R s m args below meth c nL k n Q σ pc lv (st) := by
  obtain ⟨⟨hx, hb, hml, hown, hts⟩, hwk, hg, hl9, hlk⟩ := X
  intro H locs ls hP hS hl
  exact lv_dload hx hb d (lv_at hl j hj) (kk H locs ls hP hS hl)

theorem V_dstore_n (X : Cx g p l R s m args meth c cc nL own Ts) (lv1 : List (Nat × Value)) {i : Nat} {x : UInt64} {i4 : Fin 4} (d : decode cc pc = .ok (.dstore_n i4, 1)) (hi : (i4 : Nat) = i) (hn : i + 1 < nL) (hq : (i, Value.double x) :: lv.filter (fun q => !(q.1 == i) && (!(q.1 == i + 1) && !(q.1 + 1 == i && q.2.category == 2))) = lv1) (kk : V g p l e R s m args below meth c nL k n Q σ (pc + 1) lv1 (st)) : V g p l e R s m args below meth c nL k n Q σ pc lv (.double x :: st) := by
  obtain ⟨⟨hx, hb, hml, hown, hts⟩, hwk, hg, hl9, hlk⟩ := X
  intro H locs ls hP hS hl
  exact lv_dstore_n hx hb d hi hl hn hq (fun ls1 hl1 => kk H locs ls1 hP hS hl1)

theorem V_dstore (X : Cx g p l R s m args meth c cc nL own Ts) (lv1 : List (Nat × Value)) {i : Nat} {x : UInt64} (d : decode cc pc = .ok (.dstore i, 2)) (hn : i + 1 < nL) (hq : (i, Value.double x) :: lv.filter (fun q => !(q.1 == i) && (!(q.1 == i + 1) && !(q.1 + 1 == i && q.2.category == 2))) = lv1) (kk : V g p l e R s m args below meth c nL k n Q σ (pc + 2) lv1 (st)) : V g p l e R s m args below meth c nL k n Q σ pc lv (.double x :: st) := by
  obtain ⟨⟨hx, hb, hml, hown, hts⟩, hwk, hg, hl9, hlk⟩ := X
  intro H locs ls hP hS hl
  exact lv_dstore hx hb d hl hn hq (fun ls1 hl1 => kk H locs ls1 hP hS hl1)

theorem V_iinc (X : Cx g p l R s m args meth c cc nL own Ts) (lv1 : List (Nat × Value)) (j : Nat) {i : Nat} {z a : Int} (b : Int) (hab : a + z = b) (hj : lv[j]? = some (i, .int (iN a))) (d : decode cc pc = .ok (.iinc i z, 3)) (hn : i < nL) (hq : (i, Value.int (iN b)) :: lv.filter (fun q => !(q.1 == i) && !(q.1 + 1 == i && q.2.category == 2)) = lv1) (kk : V g p l e R s m args below meth c nL k n Q σ (pc + 3) lv1 (st)) : V g p l e R s m args below meth c nL k n Q σ pc lv (st) := by
  obtain ⟨⟨hx, hb, hml, hown, hts⟩, hwk, hg, hl9, hlk⟩ := X
  intro H locs ls hP hS hl
  exact lv_iinc hx hb d hl hj (hab ▸ iN_add a z) hn hq (fun ls1 hl1 => kk H locs ls1 hP hS hl1)

theorem V_iadd (X : Cx g p l R s m args meth c cc nL own Ts) {a b : Int} (d : decode cc pc = .ok (.iadd, 1)) (kk : V g p l e R s m args below meth c nL k n Q σ (pc + 1) lv (.int (iN (a + b)) :: st)) : V g p l e R s m args below meth c nL k n Q σ pc lv (.int (iN b) :: .int (iN a) :: st) := by
  obtain ⟨⟨hx, hb, hml, hown, hts⟩, hwk, hg, hl9, hlk⟩ := X
  intro H locs ls hP hS hl
  refine lv_iadd hx hb d ?_
  rw [iN_add]
  exact kk H locs ls hP hS hl

theorem V_isub (X : Cx g p l R s m args meth c cc nL own Ts) {a b : Int} (d : decode cc pc = .ok (.isub, 1)) (kk : V g p l e R s m args below meth c nL k n Q σ (pc + 1) lv (.int (iN (a - b)) :: st)) : V g p l e R s m args below meth c nL k n Q σ pc lv (.int (iN b) :: .int (iN a) :: st) := by
  obtain ⟨⟨hx, hb, hml, hown, hts⟩, hwk, hg, hl9, hlk⟩ := X
  intro H locs ls hP hS hl
  refine lv_isub hx hb d ?_
  rw [iN_sub]
  exact kk H locs ls hP hS hl

theorem V_imul (X : Cx g p l R s m args meth c cc nL own Ts) {a b : Int} (d : decode cc pc = .ok (.imul, 1)) (kk : V g p l e R s m args below meth c nL k n Q σ (pc + 1) lv (.int (iN (a * b)) :: st)) : V g p l e R s m args below meth c nL k n Q σ pc lv (.int (iN b) :: .int (iN a) :: st) := by
  obtain ⟨⟨hx, hb, hml, hown, hts⟩, hwk, hg, hl9, hlk⟩ := X
  intro H locs ls hP hS hl
  refine lv_imul hx hb d ?_
  rw [iN_mul]
  exact kk H locs ls hP hS hl

theorem V_idiv (X : Cx g p l R s m args meth c cc nL own Ts) {a b : Int} (ha : 0 ≤ a) (ha2 : a ≤ 2147483647) (hb0 : 0 < b) (hb2 : b ≤ 2147483647) (d : decode cc pc = .ok (.idiv, 1)) (kk : V g p l e R s m args below meth c nL k n Q σ (pc + 1) lv (.int (iN (a / b)) :: st)) : V g p l e R s m args below meth c nL k n Q σ pc lv (.int (iN b) :: .int (iN a) :: st) := by
  obtain ⟨⟨hx, hb, hml, hown, hts⟩, hwk, hg, hl9, hlk⟩ := X
  intro H locs ls hP hS hl
  refine lv_idiv hx hb d (fun h => ?_) ?_
  · rw [← iN_0, iN_eq ⟨by omega, by omega⟩ R32_0] at h
    omega
  · rw [iN_div ha ha2 hb0 hb2]
    exact kk H locs ls hP hS hl

theorem V_ladd (X : Cx g p l R s m args meth c cc nL own Ts) {a b : Int} (d : decode cc pc = .ok (.ladd, 1)) (kk : V g p l e R s m args below meth c nL k n Q σ (pc + 1) lv (.long (lI (a + b)) :: st)) : V g p l e R s m args below meth c nL k n Q σ pc lv (.long (lI b) :: .long (lI a) :: st) := by
  obtain ⟨⟨hx, hb, hml, hown, hts⟩, hwk, hg, hl9, hlk⟩ := X
  intro H locs ls hP hS hl
  refine lv_ladd hx hb d ?_
  rw [lI_add]
  exact kk H locs ls hP hS hl

theorem V_lmul (X : Cx g p l R s m args meth c cc nL own Ts) {a b : Int} (d : decode cc pc = .ok (.lmul, 1)) (kk : V g p l e R s m args below meth c nL k n Q σ (pc + 1) lv (.long (lI (a * b)) :: st)) : V g p l e R s m args below meth c nL k n Q σ pc lv (.long (lI b) :: .long (lI a) :: st) := by
  obtain ⟨⟨hx, hb, hml, hown, hts⟩, hwk, hg, hl9, hlk⟩ := X
  intro H locs ls hP hS hl
  refine lv_lmul hx hb d ?_
  rw [lI_mul]
  exact kk H locs ls hP hS hl

theorem V_i2l (X : Cx g p l R s m args meth c cc nL own Ts) {a : Int} (h : R32 a) (d : decode cc pc = .ok (.i2l, 1)) (kk : V g p l e R s m args below meth c nL k n Q σ (pc + 1) lv (.long (lI a) :: st)) : V g p l e R s m args below meth c nL k n Q σ pc lv (.int (iN a) :: st) := by
  obtain ⟨⟨hx, hb, hml, hown, hts⟩, hwk, hg, hl9, hlk⟩ := X
  intro H locs ls hP hS hl
  exact lv_i2l hx hb d (iN_l h) (kk H locs ls hP hS hl)

theorem V_dup (X : Cx g p l R s m args meth c cc nL own Ts) {v : Value} (hv : v.category = 1) (d : decode cc pc = .ok (.dup, 1)) (kk : V g p l e R s m args below meth c nL k n Q σ (pc + 1) lv (v :: v :: st)) : V g p l e R s m args below meth c nL k n Q σ pc lv (v :: st) := by
  obtain ⟨⟨hx, hb, hml, hown, hts⟩, hwk, hg, hl9, hlk⟩ := X
  intro H locs ls hP hS hl
  exact lv_dup hx hb d hv (kk H locs ls hP hS hl)

theorem V_dup2 (X : Cx g p l R s m args meth c cc nL own Ts) {va vb : Value} (ha : va.category = 1) (hb1 : vb.category = 1) (d : decode cc pc = .ok (.dup2, 1)) (kk : V g p l e R s m args below meth c nL k n Q σ (pc + 1) lv (va :: vb :: va :: vb :: st)) : V g p l e R s m args below meth c nL k n Q σ pc lv (va :: vb :: st) := by
  obtain ⟨⟨hx, hb, hml, hown, hts⟩, hwk, hg, hl9, hlk⟩ := X
  intro H locs ls hP hS hl
  exact lv_dup2_11 hx hb d ha hb1 (kk H locs ls hP hS hl)

theorem V_pop (X : Cx g p l R s m args meth c cc nL own Ts) {v : Value} (hv : v.category = 1) (d : decode cc pc = .ok (.pop, 1)) (kk : V g p l e R s m args below meth c nL k n Q σ (pc + 1) lv (st)) : V g p l e R s m args below meth c nL k n Q σ pc lv (v :: st) := by
  obtain ⟨⟨hx, hb, hml, hown, hts⟩, hwk, hg, hl9, hlk⟩ := X
  intro H locs ls hP hS hl
  exact lv_pop hx hb d hv (kk H locs ls hP hS hl)

theorem V_if_eq (X : Cx g p l R s m args meth c cc nL own Ts) {a : Int} {off : Int} (tgt : Nat) (ha : R32 a) (d : decode cc pc = .ok (.ifCond .eq off, 3)) (ht : (pc : Int) + off = (tgt : Int)) (kt : a = 0 → V g p l e R s m args below meth c nL k n Q σ tgt lv (st)) (kf : ¬ a = 0 → V g p l e R s m args below meth c nL k n Q σ (pc + 3) lv (st)) : V g p l e R s m args below meth c nL k n Q σ pc lv (.int (iN a) :: st) := by
  obtain ⟨⟨hx, hb, hml, hown, hts⟩, hwk, hg, hl9, hlk⟩ := X
  intro H locs ls hP hS hl
  refine lv_if_eq hx hb d ht (fun h => kt ?_ H locs ls hP hS hl) (fun h => kf ?_ H locs ls hP hS hl)
  · rwa [← iN_0, iN_eq ha R32_0] at h
  · rwa [← iN_0, iN_eq ha R32_0] at h

theorem V_icmp_eq (X : Cx g p l R s m args meth c cc nL own Ts) {a b : Int} {off : Int} (tgt : Nat) (ha : R32 a) (hb1 : R32 b) (d : decode cc pc = .ok (.if_icmp .eq off, 3)) (ht : (pc : Int) + off = (tgt : Int)) (kt : a = b → V g p l e R s m args below meth c nL k n Q σ tgt lv (st)) (kf : ¬ a = b → V g p l e R s m args below meth c nL k n Q σ (pc + 3) lv (st)) : V g p l e R s m args below meth c nL k n Q σ pc lv (.int (iN b) :: .int (iN a) :: st) := by
  obtain ⟨⟨hx, hb, hml, hown, hts⟩, hwk, hg, hl9, hlk⟩ := X
  intro H locs ls hP hS hl
  refine lv_icmp_eq hx hb d ht (fun h => kt ?_ H locs ls hP hS hl) (fun h => kf ?_ H locs ls hP hS hl)
  · rwa [iN_eq ha hb1] at h
  · rwa [iN_eq ha hb1] at h

theorem V_if_ne (X : Cx g p l R s m args meth c cc nL own Ts) {a : Int} {off : Int} (tgt : Nat) (ha : R32 a) (d : decode cc pc = .ok (.ifCond .ne off, 3)) (ht : (pc : Int) + off = (tgt : Int)) (kt : ¬ a = 0 → V g p l e R s m args below meth c nL k n Q σ tgt lv (st)) (kf : a = 0 → V g p l e R s m args below meth c nL k n Q σ (pc + 3) lv (st)) : V g p l e R s m args below meth c nL k n Q σ pc lv (.int (iN a) :: st) := by
  obtain ⟨⟨hx, hb, hml, hown, hts⟩, hwk, hg, hl9, hlk⟩ := X
  intro H locs ls hP hS hl
  refine lv_if_ne hx hb d ht (fun h => kt (fun z => h (by rw [z]; exact iN_0)) H locs ls hP hS hl) (fun h => kf ?_ H locs ls hP hS hl)
  first | (rw [← iN_0, iN_eq ha R32_0] at h; exact h) | (rw [← iN_0] at h; simpa [iN_eq ha R32_0] using h)

theorem V_icmp_ne (X : Cx g p l R s m args meth c cc nL own Ts) {a b : Int} {off : Int} (tgt : Nat) (ha : R32 a) (hb1 : R32 b) (d : decode cc pc = .ok (.if_icmp .ne off, 3)) (ht : (pc : Int) + off = (tgt : Int)) (kt : ¬ a = b → V g p l e R s m args below meth c nL k n Q σ tgt lv (st)) (kf : a = b → V g p l e R s m args below meth c nL k n Q σ (pc + 3) lv (st)) : V g p l e R s m args below meth c nL k n Q σ pc lv (.int (iN b) :: .int (iN a) :: st) := by
  obtain ⟨⟨hx, hb, hml, hown, hts⟩, hwk, hg, hl9, hlk⟩ := X
  intro H locs ls hP hS hl
  refine lv_icmp_ne hx hb d ht (fun h => kt (fun z => h (by rw [z])) H locs ls hP hS hl) (fun h => kf ?_ H locs ls hP hS hl)
  first | (rw [iN_eq ha hb1] at h; exact h) | (simpa [iN_eq ha hb1] using h)

theorem V_if_lt (X : Cx g p l R s m args meth c cc nL own Ts) {a : Int} {off : Int} (tgt : Nat) (ha : R32 a) (d : decode cc pc = .ok (.ifCond .lt off, 3)) (ht : (pc : Int) + off = (tgt : Int)) (kt : a < 0 → V g p l e R s m args below meth c nL k n Q σ tgt lv (st)) (kf : ¬ a < 0 → V g p l e R s m args below meth c nL k n Q σ (pc + 3) lv (st)) : V g p l e R s m args below meth c nL k n Q σ pc lv (.int (iN a) :: st) := by
  obtain ⟨⟨hx, hb, hml, hown, hts⟩, hwk, hg, hl9, hlk⟩ := X
  intro H locs ls hP hS hl
  refine lv_if_lt hx hb d ht (fun h => kt ?_ H locs ls hP hS hl) (fun h => kf ?_ H locs ls hP hS hl)
  · rwa [← iN_0, iN_lt ha R32_0] at h
  · rwa [← iN_0, iN_lt ha R32_0] at h

theorem V_icmp_lt (X : Cx g p l R s m args meth c cc nL own Ts) {a b : Int} {off : Int} (tgt : Nat) (ha : R32 a) (hb1 : R32 b) (d : decode cc pc = .ok (.if_icmp .lt off, 3)) (ht : (pc : Int) + off = (tgt : Int)) (kt : a < b → V g p l e R s m args below meth c nL k n Q σ tgt lv (st)) (kf : ¬ a < b → V g p l e R s m args below meth c nL k n Q σ (pc + 3) lv (st)) : V g p l e R s m args below meth c nL k n Q σ pc lv (.int (iN b) :: .int (iN a) :: st) := by
  obtain ⟨⟨hx, hb, hml, hown, hts⟩, hwk, hg, hl9, hlk⟩ := X
  intro H locs ls hP hS hl
  refine lv_icmp_lt hx hb d ht (fun h => kt ?_ H locs ls hP hS hl) (fun h => kf ?_ H locs ls hP hS hl)
  · rwa [iN_lt ha hb1] at h
  · rwa [iN_lt ha hb1] at h

theorem V_if_ge (X : Cx g p l R s m args meth c cc nL own Ts) {a : Int} {off : Int} (tgt : Nat) (ha : R32 a) (d : decode cc pc = .ok (.ifCond .ge off, 3)) (ht : (pc : Int) + off = (tgt : Int)) (kt : 0 ≤ a → V g p l e R s m args below meth c nL k n Q σ tgt lv (st)) (kf : ¬ 0 ≤ a → V g p l e R s m args below meth c nL k n Q σ (pc + 3) lv (st)) : V g p l e R s m args below meth c nL k n Q σ pc lv (.int (iN a) :: st) := by
  obtain ⟨⟨hx, hb, hml, hown, hts⟩, hwk, hg, hl9, hlk⟩ := X
  intro H locs ls hP hS hl
  refine lv_if_ge hx hb d ht (fun h => kt ?_ H locs ls hP hS hl) (fun h => kf ?_ H locs ls hP hS hl)
  · rwa [← iN_0, iN_le R32_0 ha] at h
  · rwa [← iN_0, iN_le R32_0 ha] at h

theorem V_icmp_ge (X : Cx g p l R s m args meth c cc nL own Ts) {a b : Int} {off : Int} (tgt : Nat) (ha : R32 a) (hb1 : R32 b) (d : decode cc pc = .ok (.if_icmp .ge off, 3)) (ht : (pc : Int) + off = (tgt : Int)) (kt : b ≤ a → V g p l e R s m args below meth c nL k n Q σ tgt lv (st)) (kf : ¬ b ≤ a → V g p l e R s m args below meth c nL k n Q σ (pc + 3) lv (st)) : V g p l e R s m args below meth c nL k n Q σ pc lv (.int (iN b) :: .int (iN a) :: st) := by
  obtain ⟨⟨hx, hb, hml, hown, hts⟩, hwk, hg, hl9, hlk⟩ := X
  intro H locs ls hP hS hl
  refine lv_icmp_ge hx hb d ht (fun h => kt ?_ H locs ls hP hS hl) (fun h => kf ?_ H locs ls hP hS hl)
  · rwa [iN_le hb1 ha] at h
  · rwa [iN_le hb1 ha] at h

theorem V_if_gt (X : Cx g p l R s m args meth c cc nL own Ts) {a : Int} {off : Int} (tgt : Nat) (ha : R32 a) (d : decode cc pc = .ok (.ifCond .gt off, 3)) (ht : (pc : Int) + off = (tgt : Int)) (kt : 0 < a → V g p l e R s m args below meth c nL k n Q σ tgt lv (st)) (kf : ¬ 0 < a → V g p l e R s m args below meth c nL k n Q σ (pc + 3) lv (st)) : V g p l e R s m args below meth c nL k n Q σ pc lv (.int (iN a) :: st) := by
  obtain ⟨⟨hx, hb, hml, hown, hts⟩, hwk, hg, hl9, hlk⟩ := X
  intro H locs ls hP hS hl
  refine lv_if_gt hx hb d ht (fun h => kt ?_ H locs ls hP hS hl) (fun h => kf ?_ H locs ls hP hS hl)
  · rwa [← iN_0, iN_lt R32_0 ha] at h
  · rwa [← iN_0, iN_lt R32_0 ha] at h

theorem V_icmp_gt (X : Cx g p l R s m args meth c cc nL own Ts) {a b : Int} {off : Int} (tgt : Nat) (ha : R32 a) (hb1 : R32 b) (d : decode cc pc = .ok (.if_icmp .gt off, 3)) (ht : (pc : Int) + off = (tgt : Int)) (kt : b < a → V g p l e R s m args below meth c nL k n Q σ tgt lv (st)) (kf : ¬ b < a → V g p l e R s m args below meth c nL k n Q σ (pc + 3) lv (st)) : V g p l e R s m args below meth c nL k n Q σ pc lv (.int (iN b) :: .int (iN a) :: st) := by
  obtain ⟨⟨hx, hb, hml, hown, hts⟩, hwk, hg, hl9, hlk⟩ := X
  intro H locs ls hP hS hl
  refine lv_icmp_gt hx hb d ht (fun h => kt ?_ H locs ls hP hS hl) (fun h => kf ?_ H locs ls hP hS hl)
  · rwa [iN_lt hb1 ha] at h
  · rwa [iN_lt hb1 ha] at h

theorem V_if_le (X : Cx g p l R s m args meth c cc nL own Ts) {a : Int} {off : Int} (tgt : Nat) (ha : R32 a) (d : decode cc pc = .ok (.ifCond .le off, 3)) (ht : (pc : Int) + off = (tgt : Int)) (kt : a ≤ 0 → V g p l e R s m args below meth c nL k n Q σ tgt lv (st)) (kf : ¬ a ≤ 0 → V g p l e R s m args below meth c nL k n Q σ (pc + 3) lv (st)) : V g p l e R s m args below meth c nL k n Q σ pc lv (.int (iN a) :: st) := by
  obtain ⟨⟨hx, hb, hml, hown, hts⟩, hwk, hg, hl9, hlk⟩ := X
  intro H locs ls hP hS hl
  refine lv_if_le hx hb d ht (fun h => kt ?_ H locs ls hP hS hl) (fun h => kf ?_ H locs ls hP hS hl)
  · rwa [← iN_0, iN_le ha R32_0] at h
  · rwa [← iN_0, iN_le ha R32_0] at h

theorem V_icmp_le (X : Cx g p l R s m args meth c cc nL own Ts) {a b : Int} {off : Int} (tgt : Nat) (ha : R32 a) (hb1 : R32 b) (d : decode cc pc = .ok (.if_icmp .le off, 3)) (ht : (pc : Int) + off = (tgt : Int)) (kt : a ≤ b → V g p l e R s m args below meth c nL k n Q σ tgt lv (st)) (kf : ¬ a ≤ b → V g p l e R s m args below meth c nL k n Q σ (pc + 3) lv (st)) : V g p l e R s m args below meth c nL k n Q σ pc lv (.int (iN b) :: .int (iN a) :: st) := by
  obtain ⟨⟨hx, hb, hml, hown, hts⟩, hwk, hg, hl9, hlk⟩ := X
  intro H locs ls hP hS hl
  refine lv_icmp_le hx hb d ht (fun h => kt ?_ H locs ls hP hS hl) (fun h => kf ?_ H locs ls hP hS hl)
  · rwa [iN_le ha hb1] at h
  · rwa [iN_le ha hb1] at h

theorem V_goto (X : Cx g p l R s m args meth c cc nL own Ts) {off : Int} (tgt : Nat) (d : decode cc pc = .ok (.goto off, 3)) (ht : (pc : Int) + off = (tgt : Int)) (kk : V g p l e R s m args below meth c nL k n Q σ tgt lv (st)) : V g p l e R s m args below meth c nL k n Q σ pc lv (st) := by
  obtain ⟨⟨hx, hb, hml, hown, hts⟩, hwk, hg, hl9, hlk⟩ := X
  intro H locs ls hP hS hl
  exact lv_goto hx hb d ht (kk H locs ls hP hS hl)

theorem V_get (X : Cx g p l R s m args meth c cc nL own Ts) {ci idx N : Nat} {C ref : String} {T : u_T} (a : Nat) (ha : a < 112) (hkd : kd a = ci) (h8 : ci < 8) (hc : vwCl[ci]? = some (C, T, N)) (hin : ∀ w ∈ u_ws C T N, w ∈ Ts) (j : Nat) (hj : j < N) (hlk0 : Cond.fieldLink own idx ref (T j).2.1 (T j).2.2.1 ∈ Ts) (href : ref = (T j).1) {v : Value} (hv : (flds g (σ.1 a) ci a)[j]? = some v) (d : decode cc pc = .ok (.getfield idx, 3)) (kk : V g p l e R s m args below meth c nL k n Q σ (pc + 3) lv (v :: st)) : V g p l e R s m args below meth c nL k n Q σ pc lv (.ref (ga g a) :: st) := by
  obtain ⟨⟨hx, hb, hml, hown, hts⟩, hwk, hg, hl9, hlk⟩ := X
  intro H locs ls hP hS hl
  have he : (cells g σ)[a]? = some (ga g a, .inr (ci, flds g (σ.1 a) ci a)) := by rw [cells_at ha, cL_obj hkd h8]
  exact va_get hx hb hts hin hown hwk.1 hP a he hc j hj (hts _ hlk0) (fun x hx1 => by rw [href]; exact hx1) hv d (kk H locs ls hP hS hl)

theorem V_put (X : Cx g p l R s m args meth c cc nL own Ts) {ci idx N : Nat} {C ref : String} {T : u_T} (a : Nat) (ha : a < 112) (hkd : kd a = ci) (h8 : ci < 8) (hc : vwCl[ci]? = some (C, T, N)) (hin : ∀ w ∈ u_ws C T N, w ∈ Ts) (j : Nat) (hj : j < N) (hlk0 : Cond.fieldLink own idx ref (T j).2.1 (T j).2.2.1 ∈ Ts) (href : ref = (T j).1) {z : Int} {ty : FieldType} (ty0 : Nat → FieldType) (hty : ∀ k, k < N → parseFieldDescriptor (T k).2.2.1 = some (ty0 k)) (hnm : ∀ a, a < N → ∀ b, b < N → a ≠ b → (T a).2.1 ≠ (T b).2.1) (hfin : (T j).2.2.2 = false) (hd : parseFieldDescriptor (T j).2.2.1 = some ty) (hn : narrow ty (.int (iN z)) = .int (iN z)) (hfit : fits ty (.int (iN z)) = true) (hset : (flds g (σ.1 a) ci a).set j (.int (iN z)) = flds g (ur (σ.1 a) j z) ci a) (hlen : j < (flds g (σ.1 a) ci a).length) (d : decode cc pc = .ok (.putfield idx, 3)) (kk : V g p l e R s m args below meth c nL k n Q (sw σ a j z) (pc + 3) lv (st)) : V g p l e R s m args below meth c nL k n Q σ pc lv (.int (iN z) :: .ref (ga g a) :: st) := by
  obtain ⟨⟨hx, hb, hml, hown, hts⟩, hwk, hg, hl9, hlk⟩ := X
  intro H locs ls hP hS hl
  have he : (cells g σ)[a]? = some (ga g a, .inr (ci, flds g (σ.1 a) ci a)) := by rw [cells_at ha, cL_obj hkd h8]
  refine va_put hx hb hts hin ty0 hty hnm hown hwk.1 hP (hg.D σ) hS a he hc j hj (hts _ hlk0) (fun x hx1 => by rw [href]; exact hx1) hfin hd hn hfit hlen d (fun H1 locs1 hP1 _ hS1 => kk H1 locs1 ls ?_ hS1 hl)
  rw [hset, cells_set ha (cL_obj hkd h8)] at hP1
  exact hP1

theorem V_iald (X : Cx g p l R s m args meth c cc nL own Ts) {N : Nat} {i : Int} (a : Nat) (ha : a < 112) (hkd : kd a = 9) (hN : ln a = N) (hN2 : N ≤ 2147483647) (j : Nat) (hij : i = (j : Int)) (hj : j < N) (d : decode cc pc = .ok (.iaload, 1)) (kk : V g p l e R s m args below meth c nL k n Q σ (pc + 1) lv (.int (iN (σ.1 a j)) :: st)) : V g p l e R s m args below meth c nL k n Q σ pc lv (.int (iN i) :: .ref (ga g a) :: st) := by
  obtain ⟨⟨hx, hb, hml, hown, hts⟩, hwk, hg, hl9, hlk⟩ := X
  intro H locs ls hP hS hl
  have he : (cells g σ)[a]? = some (ga g a, .inl (gc g 9, N, .inl (fun k => iN (σ.1 a k)))) := by rw [cells_at ha, cL_arr hkd (by decide) (by decide) hN]
  refine va_iald hx hb hwk.1 hP a 1 he rfl (iN_in (by omega) (by omega) hN2) d ?_
  rw [iN_clamp ⟨by omega, by omega⟩, show i.toNat = j by omega]
  exact kk H locs ls hP hS hl

theorem V_cald (X : Cx g p l R s m args meth c cc nL own Ts) {N : Nat} {i : Int} (a : Nat) (ha : a < 112) (hkd : kd a = 8) (hN : ln a = N) (hN2 : N ≤ 2147483647) (j : Nat) (hij : i = (j : Int)) (hj : j < N) (d : decode cc pc = .ok (.caload, 1)) (kk : V g p l e R s m args below meth c nL k n Q σ (pc + 1) lv (.int (iN (σ.1 a j)) :: st)) : V g p l e R s m args below meth c nL k n Q σ pc lv (.int (iN i) :: .ref (ga g a) :: st) := by
  obtain ⟨⟨hx, hb, hml, hown, hts⟩, hwk, hg, hl9, hlk⟩ := X
  intro H locs ls hP hS hl
  have he : (cells g σ)[a]? = some (ga g a, .inl (gc g 8, N, .inl (fun k => iN (σ.1 a k)))) := by rw [cells_at ha, cL_arr hkd (by decide) (by decide) hN]
  refine va_cald hx hb hwk.1 hP a 0 he rfl (iN_in (by omega) (by omega) hN2) d ?_
  rw [iN_clamp ⟨by omega, by omega⟩, show i.toNat = j by omega]
  exact kk H locs ls hP hS hl

theorem V_zald (X : Cx g p l R s m args meth c cc nL own Ts) {N : Nat} {i : Int} (a : Nat) (ha : a < 112) (hkd : kd a = 10) (hN : ln a = N) (hN2 : N ≤ 2147483647) (j : Nat) (hij : i = (j : Int)) (hj : j < N) (d : decode cc pc = .ok (.baload, 1)) (kk : V g p l e R s m args below meth c nL k n Q σ (pc + 1) lv (.int (iN (σ.1 a j)) :: st)) : V g p l e R s m args below meth c nL k n Q σ pc lv (.int (iN i) :: .ref (ga g a) :: st) := by
  obtain ⟨⟨hx, hb, hml, hown, hts⟩, hwk, hg, hl9, hlk⟩ := X
  intro H locs ls hP hS hl
  have he : (cells g σ)[a]? = some (ga g a, .inl (gc g 10, N, .inl (fun k => iN (σ.1 a k)))) := by rw [cells_at ha, cL_arr hkd (by decide) (by decide) hN]
  refine va_zald hx hb hwk.1 hP a 2 he rfl (iN_in (by omega) (by omega) hN2) d ?_
  rw [iN_clamp ⟨by omega, by omega⟩, show i.toNat = j by omega]
  exact kk H locs ls hP hS hl

theorem V_iast (X : Cx g p l R s m args meth c cc nL own Ts) {N : Nat} {i z : Int} (a : Nat) (ha : a < 112) (hkd : kd a = 9) (hN : ln a = N) (hN2 : N ≤ 2147483647) (j : Nat) (hij : i = (j : Int)) (hj : j < N) (d : decode cc pc = .ok (.iastore, 1)) (kk : V g p l e R s m args below meth c nL k n Q (sw σ a j z) (pc + 1) lv (st)) : V g p l e R s m args below meth c nL k n Q σ pc lv (.int (iN z) :: .int (iN i) :: .ref (ga g a) :: st) := by
  obtain ⟨⟨hx, hb, hml, hown, hts⟩, hwk, hg, hl9, hlk⟩ := X
  intro H locs ls hP hS hl
  have he : (cells g σ)[a]? = some (ga g a, .inl (gc g 9, N, .inl (fun k => iN (σ.1 a k)))) := by rw [cells_at ha, cL_arr hkd (by decide) (by decide) hN]
  refine va_iast hx hb hwk.1 hP (hg.D σ) hS a 1 he rfl (iN_in (by omega) (by omega) hN2) d (fun H1 locs1 hP1 _ hS1 => kk H1 locs1 ls ?_ hS1 hl)
  rw [iN_clamp ⟨by omega, by omega⟩, show i.toNat = j by omega] at hP1
  have e8 : upd (fun k => iN (σ.1 a k)) j (iN z) = fun k => iN (ur (σ.1 a) j z k) := by
    funext q
    by_cases hq : q = j <;> simp [upd, ur, hq]
  rw [e8, cells_set ha (cL_arr hkd (by decide) (by decide) hN)] at hP1
  exact hP1

theorem V_cast (X : Cx g p l R s m args meth c cc nL own Ts) {N : Nat} {i z : Int} (a : Nat) (ha : a < 112) (hkd : kd a = 8) (hN : ln a = N) (hN2 : N ≤ 2147483647) (j : Nat) (hij : i = (j : Int)) (hj : j < N) (hv0 : 0 ≤ z) (hv1 : z < 65536) (d : decode cc pc = .ok (.castore, 1)) (kk : V g p l e R s m args below meth c nL k n Q (sw σ a j z) (pc + 1) lv (st)) : V g p l e R s m args below meth c nL k n Q σ pc lv (.int (iN z) :: .int (iN i) :: .ref (ga g a) :: st) := by
  obtain ⟨⟨hx, hb, hml, hown, hts⟩, hwk, hg, hl9, hlk⟩ := X
  intro H locs ls hP hS hl
  have he : (cells g σ)[a]? = some (ga g a, .inl (gc g 8, N, .inl (fun k => iN (σ.1 a k)))) := by rw [cells_at ha, cL_arr hkd (by decide) (by decide) hN]
  refine va_cast hx hb hwk.1 hP (hg.D σ) hS a 0 he rfl (iN_in (by omega) (by omega) hN2) d (fun H1 locs1 hP1 _ hS1 => kk H1 locs1 ls ?_ hS1 hl)
  rw [iN_clamp ⟨by omega, by omega⟩, show i.toNat = j by omega] at hP1
  have e9 : vp_nar .char (iN z) = iN z := by unfold vp_nar; rw [(iN_char hv0 hv1).1]
  rw [e9] at hP1
  have e8 : upd (fun k => iN (σ.1 a k)) j (iN z) = fun k => iN (ur (σ.1 a) j z k) := by
    funext q
    by_cases hq : q = j <;> simp [upd, ur, hq]
  rw [e8, cells_set ha (cL_arr hkd (by decide) (by decide) hN)] at hP1
  exact hP1

theorem V_zast (X : Cx g p l R s m args meth c cc nL own Ts) {N : Nat} {i z : Int} (a : Nat) (ha : a < 112) (hkd : kd a = 10) (hN : ln a = N) (hN2 : N ≤ 2147483647) (j : Nat) (hij : i = (j : Int)) (hj : j < N) (hv0 : z = 0 ∨ z = 1) (d : decode cc pc = .ok (.bastore, 1)) (kk : V g p l e R s m args below meth c nL k n Q (sw σ a j z) (pc + 1) lv (st)) : V g p l e R s m args below meth c nL k n Q σ pc lv (.int (iN z) :: .int (iN i) :: .ref (ga g a) :: st) := by
  obtain ⟨⟨hx, hb, hml, hown, hts⟩, hwk, hg, hl9, hlk⟩ := X
  intro H locs ls hP hS hl
  have he : (cells g σ)[a]? = some (ga g a, .inl (gc g 10, N, .inl (fun k => iN (σ.1 a k)))) := by rw [cells_at ha, cL_arr hkd (by decide) (by decide) hN]
  refine va_zast hx hb hwk.1 hP (hg.D σ) hS a 2 he rfl (iN_in (by omega) (by omega) hN2) d (fun H1 locs1 hP1 _ hS1 => kk H1 locs1 ls ?_ hS1 hl)
  rw [iN_clamp ⟨by omega, by omega⟩, show i.toNat = j by omega] at hP1
  have e9 : vp_nar .boolean (iN z) = iN z := by unfold vp_nar; rw [(iN_bool hv0).1]
  rw [e9] at hP1
  have e8 : upd (fun k => iN (σ.1 a k)) j (iN z) = fun k => iN (ur (σ.1 a) j z k) := by
    funext q
    by_cases hq : q = j <;> simp [upd, ur, hq]
  rw [e8, cells_set ha (cL_arr hkd (by decide) (by decide) hN)] at hP1
  exact hP1

theorem V_aald14 (X : Cx g p l R s m args meth c cc nL own Ts) {i : Int} (a : Nat) (ha : a < 112) (hkd : kd a = 14) (j : Nat) (hij : i = (j : Int)) (hj : j < 4) (d : decode cc pc = .ok (.aaload, 1)) (kk : V g p l e R s m args below meth c nL k n Q σ (pc + 1) lv (.ref (ga g (73 + 3 * j)) :: st)) : V g p l e R s m args below meth c nL k n Q σ pc lv (.int (iN i) :: .ref (ga g a) :: st) := by
  obtain ⟨⟨hx, hb, hml, hown, hts⟩, hwk, hg, hl9, hlk⟩ := X
  intro H locs ls hP hS hl
  have he := cells_at (g := g) (σ := σ) ha
  rw [cL_14 hkd] at he
  refine va_aldq hx hb hwk.1 hP a 5 he rfl (iN_in (by omega) (by omega) (by decide)) d ?_
  rw [iN_clamp ⟨by omega, by omega⟩, show i.toNat = j by omega]
  exact kk H locs ls hP hS hl

theorem V_aald15 (X : Cx g p l R s m args meth c cc nL own Ts) {i : Int} (a : Nat) (ha : a < 112) (hkd : kd a = 15) (j : Nat) (hij : i = (j : Int)) (hj : j < 4) (d : decode cc pc = .ok (.aaload, 1)) (kk : V g p l e R s m args below meth c nL k n Q σ (pc + 1) lv (.ref (ga g (85 + j)) :: st)) : V g p l e R s m args below meth c nL k n Q σ pc lv (.int (iN i) :: .ref (ga g a) :: st) := by
  obtain ⟨⟨hx, hb, hml, hown, hts⟩, hwk, hg, hl9, hlk⟩ := X
  intro H locs ls hP hS hl
  have he := cells_at (g := g) (σ := σ) ha
  rw [cL_15 hkd] at he
  refine va_aldq hx hb hwk.1 hP a 6 he rfl (iN_in (by omega) (by omega) (by decide)) d ?_
  rw [iN_clamp ⟨by omega, by omega⟩, show i.toNat = j by omega]
  exact kk H locs ls hP hS hl

theorem V_aald16 (X : Cx g p l R s m args meth c cc nL own Ts) {i : Int} (a : Nat) (ha : a < 112) (hkd : kd a = 16) (j : Nat) (hij : i = (j : Int)) (hj : j < 30) (d : decode cc pc = .ok (.aaload, 1)) (kk : V g p l e R s m args below meth c nL k n Q σ (pc + 1) lv (.ref (ga g (7 + 2 * j)) :: st)) : V g p l e R s m args below meth c nL k n Q σ pc lv (.int (iN i) :: .ref (ga g a) :: st) := by
  obtain ⟨⟨hx, hb, hml, hown, hts⟩, hwk, hg, hl9, hlk⟩ := X
  intro H locs ls hP hS hl
  have he := cells_at (g := g) (σ := σ) ha
  rw [cL_16 hkd] at he
  refine va_aldq hx hb hwk.1 hP a 7 he rfl (iN_in (by omega) (by omega) (by decide)) d ?_
  rw [iN_clamp ⟨by omega, by omega⟩, show i.toNat = j by omega]
  exact kk H locs ls hP hS hl

theorem V_alen (X : Cx g p l R s m args meth c cc nL own Ts) {N ti ci : Nat} {ty : FieldType} (a : Nat) (ha : a < 112) (hkd : kd a = ci) (h8 : ¬ ci < 8) (h11 : ci < 11) (hN : ln a = N) (ht : (tys g)[ti]? = some (gc g ci, ty)) (d : decode cc pc = .ok (.arraylength, 1)) (kk : V g p l e R s m args below meth c nL k n Q σ (pc + 1) lv (.int (iN (N : Int)) :: st)) : V g p l e R s m args below meth c nL k n Q σ pc lv (.ref (ga g a) :: st) := by
  obtain ⟨⟨hx, hb, hml, hown, hts⟩, hwk, hg, hl9, hlk⟩ := X
  intro H locs ls hP hS hl
  have he : (cells g σ)[a]? = some (ga g a, .inl (gc g ci, N, .inl (fun k => iN (σ.1 a k)))) := by rw [cells_at ha, cL_arr hkd h8 h11 hN]
  exact va_alen hx hb hwk.1 hP a ti he ht (v := iN (N : Int)) (Int32.ofInt_eq_ofNat).symm d (kk H locs ls hP hS hl)

theorem rd_s {σ : St} {n k : Nat} {v : Int} : (sw σ n k v).1 n k = v := sw_same σ n k v
theorem rd_n {σ : St} {n k a b : Nat} {v : Int} (h : a ≠ n) : (sw σ n k v).1 a b = σ.1 a b := by rw [sw_ne h]
theorem rd_k {σ : St} {n k a b : Nat} {v : Int} (h : b ≠ k) : (sw σ n k v).1 a b = σ.1 a b := by rw [sw_get, if_neg (fun q => h q.2)]

theorem V_mmin (X : Cx g p l R s m args meth c cc nL own Ts) {idx : Nat} {a b : Int} (h1 : Cond.methodLink own idx Lib.Math.min.name ∈ Ts) (h2 : Cond.static Lib.Math.min.name ∈ Ts) (h3 : Cond.initialized "java/lang/Math" ∈ Ts) (h4 : Cond.code Lib.Math.min.name Lib.Math.min.code 2 (some .int) ∈ Ts) (hRf : 1 ≤ R.frames) (hRl : (st.map fun v => v.category).sum + 13 ≤ R.locals) (hRc : k ≤ R.cells) (hRs : n ≤ R.slots) (ha : R32 a) (hb1 : R32 b) (d : decode cc pc = .ok (.invokestatic idx, 3)) (kk : V g p l e R s m args below meth c nL k n Q σ (pc + 3) lv (.int (iN (if b < a then b else a)) :: st)) : V g p l e R s m args below meth c nL k n Q σ pc lv (.int (iN b) :: .int (iN a) :: st) := by
  obtain ⟨⟨hx, hb, hml, hown, hts⟩, hwk, hg, hl9, hlk⟩ := X
  intro H locs ls hP hS hl
  refine va_mmin hx hb (hml.trans hl.1.symm) hown (hts _ h1) (hts _ h2) (hts _ h3) (hts _ h4) hRf hRl hRc hRs d ?_
  have e9 : (if iN b < iN a then iN b else iN a) = iN (if b < a then b else a) := by
    simp only [iN_lt hb1 ha]
    split <;> rfl
  rw [e9]
  exact kk H locs ls hP hS hl

theorem V_mmax (X : Cx g p l R s m args meth c cc nL own Ts) {idx : Nat} {a b : Int} (h1 : Cond.methodLink own idx Lib.Math.max.name ∈ Ts) (h2 : Cond.static Lib.Math.max.name ∈ Ts) (h3 : Cond.initialized "java/lang/Math" ∈ Ts) (h4 : Cond.code Lib.Math.max.name Lib.Math.max.code 2 (some .int) ∈ Ts) (hRf : 1 ≤ R.frames) (hRl : (st.map fun v => v.category).sum + 13 ≤ R.locals) (hRc : k ≤ R.cells) (hRs : n ≤ R.slots) (ha : R32 a) (hb1 : R32 b) (d : decode cc pc = .ok (.invokestatic idx, 3)) (kk : V g p l e R s m args below meth c nL k n Q σ (pc + 3) lv (.int (iN (if a < b then b else a)) :: st)) : V g p l e R s m args below meth c nL k n Q σ pc lv (.int (iN b) :: .int (iN a) :: st) := by
  obtain ⟨⟨hx, hb, hml, hown, hts⟩, hwk, hg, hl9, hlk⟩ := X
  intro H locs ls hP hS hl
  refine va_mmax hx hb (hml.trans hl.1.symm) hown (hts _ h1) (hts _ h2) (hts _ h3) (hts _ h4) hRf hRl hRc hRs d ?_
  have e9 : (if iN a < iN b then iN b else iN a) = iN (if a < b then b else a) := by
    simp only [iN_lt ha hb1]
    split <;> rfl
  rw [e9]
  exact kk H locs ls hP hS hl

theorem V_top {a b : Int} (h : a = b) (kk : V g p l e R s m args below meth c nL k n Q σ pc lv (.int (iN b) :: st)) : V g p l e R s m args below meth c nL k n Q σ pc lv (.int (iN a) :: st) := h ▸ kk

theorem V_topl {a b : Int} (h : a = b) (kk : V g p l e R s m args below meth c nL k n Q σ pc lv (.long (lI b) :: st)) : V g p l e R s m args below meth c nL k n Q σ pc lv (.long (lI a) :: st) := h ▸ kk

end VR
end
section
/-! a row of kit/laws/EXCEPTIONS.to-paste -/
section
variable {p : Program} {l : Launch} {e : Env} {R : Room} {s : State} {m : MethodId} {args : Array Value} {below : List Frame} {meth : Method} {c : Code} {H : Heap} {locs : List Loc} {cells slots : Nat} {Q : State → Prop}
variable {mc ms : Nat} {free : Addr → Prop} {A0 A1 : Nat → Prop} {H0 : Heap} {a : Array Value} {pc : Nat} {ls : Array Slot} {st0 rest : List Value}
theorem vx_callq {S SX : Type} {post : Option Nat → S → Prop} {px : SX → Prop} {B : S → State → Prop} {BX : String → SX → State → Prop} {AX : Nat → Prop} (hr : vx_Run p l e R s m args below meth c H locs cells slots mc ms (F0 m pc ls st0) rest (va_Qq post B A1 a) (vx_X px BX AX) free) (hS : va_S A0 H0 H locs) (hA : ∀ q, q < H.size → A1 q → A0 q) (hf : ∀ q, free q → A0 q) (hAX : ∀ q, q < H.size → AX q → A0 q)
    (kx : ∀ (E : String) (ce : Cell) (q9 : Addr) (u : SX) (t : State) (H1 : Heap) (locs1 : List Loc), t.heap = H1 → s.vm.Alike t.vm → px u → BX E u t → H.size ≤ H1.size → (∀ q : Nat, q < H.size → ¬ AX q → H1[q]? = H[q]?) → va_S A0 H0 H1 locs1 → H1[q9]? = some ce → ce.vm = .none → s.vm.findClass E = some ce.cls → vx_W p l e R s m args below meth c H1 locs1 (cells + mc) (slots + ms) Q (F0 m pc ls rest) q9)
    (kk : ∀ (r : Option Nat) (u : S) (t : State) (H1 : Heap) (locs1 : List Loc), t.heap = H1 → s.vm.Alike t.vm → post r u → B u t → H.size ≤ H1.size → (∀ q : Nat, q < H.size → ¬ A1 q → H1[q]? = H[q]?) → va_S A0 H0 H1 locs1 → W p l e R s m args below meth c H1 locs1 (cells + mc) (slots + ms) Q (F0 m (pc + 3) ls (va_rf r :: rest))) : W p l e R s m args below meth c H locs cells slots Q (F0 m pc ls st0) := by
  intro T hT X
  rcases hr T hT X with ⟨v, st₀, t, T', L, h0, X', hL, e1, e2, ⟨⟨r, u, hv, hp, hb⟩, hF⟩, st⟩ | ⟨q, st₀, t, T', L, E, ce, h0, X', hL, e1, e2, ⟨u, hp, hb, hF⟩, hce, hcv, hcl, st⟩
  · cases hv
    obtain ⟨k1, k2, k3⟩ := vx_keep h0 e1 hS hA hf hL hF
    obtain ⟨t2, a1, b1⟩ := kk r u t T'.heap (locs ++ L) e1.symm (by rw [← e2]; exact X'.warmed.alike) hp hb k1 k2 k3 T' rfl X'
    exact ⟨t2, st t2 a1, b1⟩
  · obtain ⟨k1, k2, k3⟩ := vx_keep h0 e1 hS hAX hf hL hF
    obtain ⟨t2, a1, b1⟩ := kx E ce q u t T'.heap (locs ++ L) e1.symm (by rw [← e2]; exact X'.warmed.alike) hp hb k1 k2 k3 (by rw [e1]; exact hce) hcv hcl T' rfl X'
    exact ⟨t2, st.trans a1, b1⟩
end

theorem gb_X6_113 : ∀ w ∈ vx_atS RX6 113 "java/util/NoSuchElementException" ["java/lang/RuntimeException", "java/lang/Exception"], goodWord w = true ∨ w = .castable "java/util/NoSuchElementException" "java/util/NoSuchElementException" ∨ w ∈ dcls.map .declares := by decide +kernel
theorem gd_X6_113 {ik : Nat} : ∀ w ∈ Cond.classLink RX6 ik "java/util/NoSuchElementException" :: Cond.initialized "java/util/NoSuchElementException" :: vx_atS RX6 113 "java/util/NoSuchElementException" ["java/lang/RuntimeException", "java/lang/Exception"], vx_ot w = true := by
  intro w hw
  rcases List.mem_cons.mp hw with rfl | hw
  · rfl
  · rcases List.mem_cons.mp hw with rfl | hw
    · rfl
    · exact List.all_eq_true.mp (show (vx_atS RX6 113 "java/util/NoSuchElementException" ["java/lang/RuntimeException", "java/lang/Exception"]).all vx_ot = true by decide +kernel) w hw
theorem gb_X6_293 : ∀ w ∈ vx_atS RX6 293 "java/lang/IndexOutOfBoundsException" ["java/lang/RuntimeException", "java/lang/Exception"], goodWord w = true ∨ w = .castable "java/lang/IndexOutOfBoundsException" "java/lang/IndexOutOfBoundsException" ∨ w ∈ dcls.map .declares := by decide +kernel
theorem gd_X6_293 {ik : Nat} : ∀ w ∈ Cond.classLink RX6 ik "java/lang/IndexOutOfBoundsException" :: Cond.initialized "java/lang/IndexOutOfBoundsException" :: vx_atS RX6 293 "java/lang/IndexOutOfBoundsException" ["java/lang/RuntimeException", "java/lang/Exception"], vx_ot w = true := by
  intro w hw
  rcases List.mem_cons.mp hw with rfl | hw
  · rfl
  · rcases List.mem_cons.mp hw with rfl | hw
    · rfl
    · exact List.all_eq_true.mp (show (vx_atS RX6 293 "java/lang/IndexOutOfBoundsException" ["java/lang/RuntimeException", "java/lang/Exception"]).all vx_ot = true by decide +kernel) w hw
theorem gb_X6_56 : ∀ w ∈ vx_atS RX6 56 "java/lang/IllegalStateException" ["java/lang/RuntimeException", "java/lang/Exception"], goodWord w = true ∨ w = .castable "java/lang/IllegalStateException" "java/lang/IllegalStateException" ∨ w ∈ dcls.map .declares := by decide +kernel
theorem gd_X6_56 {ik : Nat} : ∀ w ∈ Cond.classLink RX6 ik "java/lang/IllegalStateException" :: Cond.initialized "java/lang/IllegalStateException" :: vx_atS RX6 56 "java/lang/IllegalStateException" ["java/lang/RuntimeException", "java/lang/Exception"], vx_ot w = true := by
  intro w hw
  rcases List.mem_cons.mp hw with rfl | hw
  · rfl
  · rcases List.mem_cons.mp hw with rfl | hw
    · rfl
    · exact List.all_eq_true.mp (show (vx_atS RX6 56 "java/lang/IllegalStateException" ["java/lang/RuntimeException", "java/lang/Exception"]).all vx_ot = true by decide +kernel) w hw
theorem gb_X6_71 : ∀ w ∈ vx_atS RX6 71 "java/lang/IllegalArgumentException" ["java/lang/RuntimeException", "java/lang/Exception"], goodWord w = true ∨ w = .castable "java/lang/IllegalArgumentException" "java/lang/IllegalArgumentException" ∨ w ∈ dcls.map .declares := by decide +kernel
theorem gd_X6_71 {ik : Nat} : ∀ w ∈ Cond.classLink RX6 ik "java/lang/IllegalArgumentException" :: Cond.initialized "java/lang/IllegalArgumentException" :: vx_atS RX6 71 "java/lang/IllegalArgumentException" ["java/lang/RuntimeException", "java/lang/Exception"], vx_ot w = true := by
  intro w hw
  rcases List.mem_cons.mp hw with rfl | hw
  · rfl
  · rcases List.mem_cons.mp hw with rfl | hw
    · rfl
    · exact List.all_eq_true.mp (show (vx_atS RX6 71 "java/lang/IllegalArgumentException" ["java/lang/RuntimeException", "java/lang/Exception"]).all vx_ot = true by decide +kernel) w hw
theorem gb_X6_80 : ∀ w ∈ vx_atS RX6 80 "java/lang/UnsupportedOperationException" ["java/lang/RuntimeException", "java/lang/Exception"], goodWord w = true ∨ w = .castable "java/lang/UnsupportedOperationException" "java/lang/UnsupportedOperationException" ∨ w ∈ dcls.map .declares := by decide +kernel
theorem gd_X6_80 {ik : Nat} : ∀ w ∈ Cond.classLink RX6 ik "java/lang/UnsupportedOperationException" :: Cond.initialized "java/lang/UnsupportedOperationException" :: vx_atS RX6 80 "java/lang/UnsupportedOperationException" ["java/lang/RuntimeException", "java/lang/Exception"], vx_ot w = true := by
  intro w hw
  rcases List.mem_cons.mp hw with rfl | hw
  · rfl
  · rcases List.mem_cons.mp hw with rfl | hw
    · rfl
    · exact List.all_eq_true.mp (show (vx_atS RX6 80 "java/lang/UnsupportedOperationException" ["java/lang/RuntimeException", "java/lang/Exception"]).all vx_ot = true by decide +kernel) w hw

/-! ===== calls, ends, throws ===== -/
def QI (g : Geo) (post : Int → St → Prop) : Array Value → State → Outcome → State → Prop := va_Qi (S := St) (fun r u => ∃ z, r = iN z ∧ R32 z ∧ post z u) (Bw g) (gA g)
def QL (g : Geo) (post : Int → St → Prop) : Array Value → State → Outcome → State → Prop := va_Ql (S := St) (fun r u => ∃ z, r = lI z ∧ post z u) (Bw g) (gA g)
def QF (g : Geo) (post : UInt32 → St → Prop) : Array Value → State → Outcome → State → Prop := va_Qf (S := St) post (Bw g) (gA g)
def QD (g : Geo) (post : UInt64 → St → Prop) : Array Value → State → Outcome → State → Prop := va_Qd (S := St) post (Bw g) (gA g)
def QV (g : Geo) (post : St → Prop) : Array Value → State → Outcome → State → Prop := va_Qv (S := St) post (Bw g) (gA g)
def QR (g : Geo) (post : Nat → St → Prop) : Array Value → State → Outcome → State → Prop := va_Qq (S := St × Nat) (fun r u => r = some (ga g u.2) ∧ post u.2 u.1) (fun u t => Bw g u.1 t) (gA g)
def XT (g : Geo) (px : String → St → Prop) : String → State → State → Prop := vx_X (S := String × St) (fun u => px u.1 u.2) (fun E u t => E = u.1 ∧ Bw g u.2 t) (gA g)
/-- an exception of class E stands over this frame, thrown at pc -/
def VX (g : Geo) (p : Program) (l : Launch) (e : Env) (R : Room) (s : State) (m : MethodId) (args : Array Value) (below : List Frame) (meth : Method) (c : Code) (nL : Nat) (k n : Nat) (Q : State → Prop) (σ : St) (E : String) (pc : Nat) (lv : List (Nat × Value)) (st : List Value) : Prop :=
  ∀ (H : Heap) (locs : List Loc) (ls : Array Slot) (q : Addr) (ce : Cell), va_P (gD g) vwCl (cells g σ) H → va_S (gA g) s.heap H locs → lv_has ls nL lv → H[q]? = some ce → ce.vm = .none → s.vm.findClass E = some ce.cls → vx_W p l e R s m args below meth c H locs k n Q (F0 m pc ls st) q
section VC
variable {g : Geo} {p : Program} {l : Launch} {e : Env} {R : Room} {s : State} {m : MethodId} {args : Array Value} {below : List Frame} {meth : Method} {c : Code} {cc : ByteArray} {nL : Nat} {own : String} {Ts : List Cond} {k n : Nat} {Q : State → Prop} {σ : St} {pc : Nat} {lv lv' : List (Nat × Value)} {st rest : List Value}
theorem V_up {N : Nat} (I : Nat → St → List (Nat × Value) → Prop) {i0 : Nat} (h0 : i0 ≤ N) (hI : I i0 σ lv)
    (hx : ∀ u lv1, I N u lv1 → V g p l e R s m args below meth c nL k n Q u pc lv1 st)
    (hs : ∀ i u lv1, i < N → I i u lv1 → (∀ u2 lv2, I (i + 1) u2 lv2 → V g p l e R s m args below meth c nL k n Q u2 pc lv2 st) → V g p l e R s m args below meth c nL k n Q u pc lv1 st) : V g p l e R s m args below meth c nL k n Q σ pc lv st := by
  have key : ∀ (d i : Nat) (u : St) (lv1 : List (Nat × Value)), i + d = N → I i u lv1 → V g p l e R s m args below meth c nL k n Q u pc lv1 st := by
    intro d
    induction d with
    | zero =>
      intro i u lv1 h hI1
      have : i = N := by omega
      subst this
      exact hx u lv1 hI1
    | succ d ih =>
      intro i u lv1 h hI1
      exact hs i u lv1 (by omega) hI1 (fun u2 lv2 h2 => ih (i + 1) u2 lv2 (by omega) h2)
  exact key (N - i0) i0 σ lv (by omega) hI
theorem V_lv (h : lv = lv') (kk : V g p l e R s m args below meth c nL k n Q σ pc lv' st) : V g p l e R s m args below meth c nL k n Q σ pc lv st := h ▸ kk
/-- a method's head -/
theorem V_met {y : MethodName} {ws ws' : List Cond} {rm : Room} {maxL : Nat} {ret : Option FieldType} {As : List Value} {Qc : Array Value → State → Outcome → State → Prop} {mc ms : Nat} (hl9 : l.stackTraces = false) (hy : plainName y.cls = true) (hw : ws = Cond.code y cc maxL ret :: ws') (hlen : (lg_sl As).length ≤ maxL)
    (body : ∀ (p : Program) (e : Env) (s : State) (m : MethodId) (below : List Frame) (meth : Method) (c : Code), Cx g p l rm s m As.toArray meth c cc maxL y.cls ws → meth.sig.returnType = ret → meth.name = y.name → V g p l e rm s m As.toArray below meth c maxL 0 0 (MQ below Qc As.toArray s mc ms (gA g)) σ 0 (lv_args 0 As) []) : Met l y ws rm (va_Pc As (World g σ)) Qc mc ms (gA g) := by
  refine Met.ofW (cc := cc) (maxL := maxL) (ret := ret) hy hw ?_
  intro p e s m args below meth c s₁ B hml hv
  obtain ⟨rfl, hP, hk, hg⟩ := hv
  rw [lg_entry_eq]
  exact body p e s m below meth c ⟨⟨B.exec, B.bytes, hml, findClass_of_methodNamed B.named, atoms_spec (ws := ws) B.pre⟩, hk, hg, hl9, B.notSynchronized⟩ B.returns (name_of_methodNamed B.named B.method).1 s.heap [] _ hP va_S.rf (lv_entry As hlen)
theorem V_metX {y : MethodName} {ws ws' : List Cond} {rm : Room} {maxL : Nat} {ret : Option FieldType} {As : List Value} {Qc : Array Value → State → Outcome → State → Prop} {XC : String → State → State → Prop} {mc ms : Nat} (hl9 : l.stackTraces = false) (hy : plainName y.cls = true) (hw : ws = Cond.code y cc maxL ret :: ws') (hlen : (lg_sl As).length ≤ maxL)
    (body : ∀ (p : Program) (e : Env) (s : State) (m : MethodId) (below : List Frame) (meth : Method) (c : Code), Cx g p l rm s m As.toArray meth c cc maxL y.cls ws → (∀ x ∈ c.exceptionTable.toList, False) → meth.sig.returnType = ret → V g p l e rm s m As.toArray below meth c maxL 0 0 (vx_MQ below Qc XC As.toArray s mc ms (gA g)) σ 0 (lv_args 0 As) []) : vx_Met l y ws rm (va_Pc As (World g σ)) Qc XC mc ms (gA g) := by
  refine vx_ofW (cc := cc) (maxL := maxL) (ret := ret) hy hw ?_
  intro p e s m args below meth c s₁ B hml hno hv
  obtain ⟨rfl, hP, hk, hg⟩ := hv
  rw [lg_entry_eq]
  exact body p e s m below meth c ⟨⟨B.exec, B.bytes, hml, findClass_of_methodNamed B.named, atoms_spec (ws := ws) B.pre⟩, hk, hg, hl9, B.notSynchronized⟩ hno B.returns s.heap [] _ hP va_S.rf (lv_entry As hlen)
/-- a method with a table of its own -/
theorem V_metH {y : MethodName} {ws ws' : List Cond} {rm : Room} {maxL : Nat} {ret : Option FieldType} {hh : List (Nat × Nat × Nat × Nat)} {As : List Value} {Qc : Array Value → State → Outcome → State → Prop} {XC : String → State → State → Prop} {mc ms : Nat} (hl9 : l.stackTraces = false) (hy : plainName y.cls = true) (hw : ws = Cond.codeWith y cc maxL ret hh :: ws') (hlen : (lg_sl As).length ≤ maxL)
    (body : ∀ (p : Program) (e : Env) (s : State) (m : MethodId) (below : List Frame) (meth : Method) (c : Code), Cx g p l rm s m As.toArray meth c cc maxL y.cls ws → c.exceptionTable.toList = tableOf hh → meth.sig.returnType = ret → V g p l e rm s m As.toArray below meth c maxL 0 0 (vx_MQ below Qc XC As.toArray s mc ms (gA g)) σ 0 (lv_args 0 As) []) : vx_Met l y ws rm (va_Pc As (World g σ)) Qc XC mc ms (gA g) := by
  refine vx_ofWH (cc := cc) (maxL := maxL) (ret := ret) (hh := hh) hy hw ?_
  intro p e s m args below meth c s₁ B hml hv
  obtain ⟨rfl, hP, hk, hg⟩ := hv
  have hts := atoms_spec (ws := ws) B.pre
  rw [lg_entry_eq]
  exact body p e s m below meth c ⟨⟨B.exec, B.bytes, hml, findClass_of_methodNamed B.named, hts⟩, hk, hg, hl9, B.notSynchronized⟩ (vx_table (x := y) B (hts _ (by rw [hw]; exact List.mem_cons_self))) B.returns s.heap [] _ hP va_S.rf (lv_entry As hlen)

theorem V_iret (X : Cx g p l R s m args meth c cc nL own Ts) {z : Int} {post : Int → St → Prop} {ty : FieldType} (hr : meth.sig.returnType = some ty) (hnw : narrow ty (.int (iN z)) = .int (iN z)) (hz : R32 z) (hp : post z σ) (d : decode cc pc = .ok (.ireturn, 1)) {mc ms : Nat} (hk : k ≤ mc) (hn : n ≤ ms) : V g p l e R s m args below meth c nL k n (MQ below (QI g post) args s mc ms (gA g)) σ pc lv [.int (iN z)] := by
  obtain ⟨⟨hx, hb, hml, hown, hts⟩, hwk, hg, hl9, hlk⟩ := X
  intro H locs ls hP hS hl
  refine W.widen hk hn ?_
  refine W.zret hx hb hr hnw (fun t ht hW => ⟨⟨iN z, σ, rfl, ⟨z, rfl, hz, hp⟩, by unfold Bw; rw [ht]; exact hP⟩, hS.F ht⟩) hS.2.2 d hlk

theorem V_iretX (X : Cx g p l R s m args meth c cc nL own Ts) {XC : String → State → State → Prop} {z : Int} {post : Int → St → Prop} {ty : FieldType} (hr : meth.sig.returnType = some ty) (hnw : narrow ty (.int (iN z)) = .int (iN z)) (hz : R32 z) (hp : post z σ) (d : decode cc pc = .ok (.ireturn, 1)) {mc ms : Nat} (hk : k ≤ mc) (hn : n ≤ ms) : V g p l e R s m args below meth c nL k n (vx_MQ below (QI g post) XC args s mc ms (gA g)) σ pc lv [.int (iN z)] := by
  obtain ⟨⟨hx, hb, hml, hown, hts⟩, hwk, hg, hl9, hlk⟩ := X
  intro H locs ls hP hS hl
  refine W.widen hk hn ?_
  refine vx_ret ?_
  refine W.zret hx hb hr hnw (fun t ht hW => ⟨⟨iN z, σ, rfl, ⟨z, rfl, hz, hp⟩, by unfold Bw; rw [ht]; exact hP⟩, hS.F ht⟩) hS.2.2 d hlk

theorem V_lret (X : Cx g p l R s m args meth c cc nL own Ts) {z : Int} {post : Int → St → Prop} (hr : meth.sig.returnType = some .long) (hp : post z σ) (d : decode cc pc = .ok (.lreturn, 1)) {mc ms : Nat} (hk : k ≤ mc) (hn : n ≤ ms) : V g p l e R s m args below meth c nL k n (MQ below (QL g post) args s mc ms (gA g)) σ pc lv [.long (lI z)] := by
  obtain ⟨⟨hx, hb, hml, hown, hts⟩, hwk, hg, hl9, hlk⟩ := X
  intro H locs ls hP hS hl
  refine W.widen hk hn ?_
  refine W.lret hx hb hr (fun t ht hW => ⟨⟨lI z, σ, rfl, ⟨z, rfl, hp⟩, by unfold Bw; rw [ht]; exact hP⟩, hS.F ht⟩) hS.2.2 d hlk

theorem V_lretX (X : Cx g p l R s m args meth c cc nL own Ts) {XC : String → State → State → Prop} {z : Int} {post : Int → St → Prop} (hr : meth.sig.returnType = some .long) (hp : post z σ) (d : decode cc pc = .ok (.lreturn, 1)) {mc ms : Nat} (hk : k ≤ mc) (hn : n ≤ ms) : V g p l e R s m args below meth c nL k n (vx_MQ below (QL g post) XC args s mc ms (gA g)) σ pc lv [.long (lI z)] := by
  obtain ⟨⟨hx, hb, hml, hown, hts⟩, hwk, hg, hl9, hlk⟩ := X
  intro H locs ls hP hS hl
  refine W.widen hk hn ?_
  refine vx_ret ?_
  refine W.lret hx hb hr (fun t ht hW => ⟨⟨lI z, σ, rfl, ⟨z, rfl, hp⟩, by unfold Bw; rw [ht]; exact hP⟩, hS.F ht⟩) hS.2.2 d hlk

theorem V_fret (X : Cx g p l R s m args meth c cc nL own Ts) {z : UInt32} {post : UInt32 → St → Prop} (hr : meth.sig.returnType = some .float) (hp : post z σ) (d : decode cc pc = .ok (.freturn, 1)) {mc ms : Nat} (hk : k ≤ mc) (hn : n ≤ ms) : V g p l e R s m args below meth c nL k n (MQ below (QF g post) args s mc ms (gA g)) σ pc lv [.float z] := by
  obtain ⟨⟨hx, hb, hml, hown, hts⟩, hwk, hg, hl9, hlk⟩ := X
  intro H locs ls hP hS hl
  refine W.widen hk hn ?_
  refine W.fret hx hb hr (fun t ht hW => ⟨⟨z, σ, rfl, hp, by unfold Bw; rw [ht]; exact hP⟩, hS.F ht⟩) hS.2.2 d hlk

theorem V_fretX (X : Cx g p l R s m args meth c cc nL own Ts) {XC : String → State → State → Prop} {z : UInt32} {post : UInt32 → St → Prop} (hr : meth.sig.returnType = some .float) (hp : post z σ) (d : decode cc pc = .ok (.freturn, 1)) {mc ms : Nat} (hk : k ≤ mc) (hn : n ≤ ms) : V g p l e R s m args below meth c nL k n (vx_MQ below (QF g post) XC args s mc ms (gA g)) σ pc lv [.float z] := by
  obtain ⟨⟨hx, hb, hml, hown, hts⟩, hwk, hg, hl9, hlk⟩ := X
  intro H locs ls hP hS hl
  refine W.widen hk hn ?_
  refine vx_ret ?_
  refine W.fret hx hb hr (fun t ht hW => ⟨⟨z, σ, rfl, hp, by unfold Bw; rw [ht]; exact hP⟩, hS.F ht⟩) hS.2.2 d hlk

theorem V_dret (X : Cx g p l R s m args meth c cc nL own Ts) {z : UInt64} {post : UInt64 → St → Prop} (hr : meth.sig.returnType = some .double) (hp : post z σ) (d : decode cc pc = .ok (.dreturn, 1)) {mc ms : Nat} (hk : k ≤ mc) (hn : n ≤ ms) : V g p l e R s m args below meth c nL k n (MQ below (QD g post) args s mc ms (gA g)) σ pc lv [.double z] := by
  obtain ⟨⟨hx, hb, hml, hown, hts⟩, hwk, hg, hl9, hlk⟩ := X
  intro H locs ls hP hS hl
  refine W.widen hk hn ?_
  refine W.dret hx hb hr (fun t ht hW => ⟨⟨z, σ, rfl, hp, by unfold Bw; rw [ht]; exact hP⟩, hS.F ht⟩) hS.2.2 d hlk

theorem V_dretX (X : Cx g p l R s m args meth c cc nL own Ts) {XC : String → State → State → Prop} {z : UInt64} {post : UInt64 → St → Prop} (hr : meth.sig.returnType = some .double) (hp : post z σ) (d : decode cc pc = .ok (.dreturn, 1)) {mc ms : Nat} (hk : k ≤ mc) (hn : n ≤ ms) : V g p l e R s m args below meth c nL k n (vx_MQ below (QD g post) XC args s mc ms (gA g)) σ pc lv [.double z] := by
  obtain ⟨⟨hx, hb, hml, hown, hts⟩, hwk, hg, hl9, hlk⟩ := X
  intro H locs ls hP hS hl
  refine W.widen hk hn ?_
  refine vx_ret ?_
  refine W.dret hx hb hr (fun t ht hW => ⟨⟨z, σ, rfl, hp, by unfold Bw; rw [ht]; exact hP⟩, hS.F ht⟩) hS.2.2 d hlk

theorem V_vret (X : Cx g p l R s m args meth c cc nL own Ts) {post : St → Prop} (hr : meth.sig.returnType = none) (hp : post σ) (d : decode cc pc = .ok (.return_, 1)) {mc ms : Nat} (hk : k ≤ mc) (hn : n ≤ ms) : V g p l e R s m args below meth c nL k n (MQ below (QV g post) args s mc ms (gA g)) σ pc lv [] := by
  obtain ⟨⟨hx, hb, hml, hown, hts⟩, hwk, hg, hl9, hlk⟩ := X
  intro H locs ls hP hS hl
  refine W.widen hk hn ?_
  refine W.vret hx hb hr (fun t ht hW => ⟨⟨σ, rfl, hp, by unfold Bw; rw [ht]; exact hP⟩, hS.F ht⟩) hS.2.2 d hlk

theorem V_vretX (X : Cx g p l R s m args meth c cc nL own Ts) {XC : String → State → State → Prop} {post : St → Prop} (hr : meth.sig.returnType = none) (hp : post σ) (d : decode cc pc = .ok (.return_, 1)) {mc ms : Nat} (hk : k ≤ mc) (hn : n ≤ ms) : V g p l e R s m args below meth c nL k n (vx_MQ below (QV g post) XC args s mc ms (gA g)) σ pc lv [] := by
  obtain ⟨⟨hx, hb, hml, hown, hts⟩, hwk, hg, hl9, hlk⟩ := X
  intro H locs ls hP hS hl
  refine W.widen hk hn ?_
  refine vx_ret ?_
  refine W.vret hx hb hr (fun t ht hW => ⟨⟨σ, rfl, hp, by unfold Bw; rw [ht]; exact hP⟩, hS.F ht⟩) hS.2.2 d hlk

theorem V_aret (X : Cx g p l R s m args meth c cc nL own Ts) {b : Nat} {post : Nat → St → Prop} {C : String} (hr : meth.sig.returnType = some (.object C)) (hp : post b σ) (d : decode cc pc = .ok (.areturn, 1)) {mc ms : Nat} (hk : k ≤ mc) (hn : n ≤ ms) : V g p l e R s m args below meth c nL k n (MQ below (QR g post) args s mc ms (gA g)) σ pc lv [.ref (ga g b)] := by
  obtain ⟨⟨hx, hb, hml, hown, hts⟩, hwk, hg, hl9, hlk⟩ := X
  intro H locs ls hP hS hl
  refine W.widen hk hn ?_
  refine W.aret hx hb hr (Or.inl ⟨_, rfl⟩) (Or.inr ⟨_, rfl⟩) (fun t ht hW => ⟨⟨some (ga g b), (σ, b), rfl, ⟨rfl, hp⟩, by show va_P (gD g) vwCl (cells g σ) t.heap; rw [ht]; exact hP⟩, hS.F ht⟩) hS.2.2 d hlk

theorem V_aretX (X : Cx g p l R s m args meth c cc nL own Ts) {XC : String → State → State → Prop} {b : Nat} {post : Nat → St → Prop} {C : String} (hr : meth.sig.returnType = some (.object C)) (hp : post b σ) (d : decode cc pc = .ok (.areturn, 1)) {mc ms : Nat} (hk : k ≤ mc) (hn : n ≤ ms) : V g p l e R s m args below meth c nL k n (vx_MQ below (QR g post) XC args s mc ms (gA g)) σ pc lv [.ref (ga g b)] := by
  obtain ⟨⟨hx, hb, hml, hown, hts⟩, hwk, hg, hl9, hlk⟩ := X
  intro H locs ls hP hS hl
  refine W.widen hk hn ?_
  refine vx_ret ?_
  refine W.aret hx hb hr (Or.inl ⟨_, rfl⟩) (Or.inr ⟨_, rfl⟩) (fun t ht hW => ⟨⟨some (ga g b), (σ, b), rfl, ⟨rfl, hp⟩, by show va_P (gD g) vwCl (cells g σ) t.heap; rw [ht]; exact hP⟩, hS.F ht⟩) hS.2.2 d hlk

theorem V_callV_I (X : Cx g p l R s m args meth c cc nL own Ts) {ci N : Nat} {T : u_T} {C : String} (b0 : Nat) (hb0 : b0 < 112) (hkd : kd b0 = ci) (h8 : ci < 8) (hc : vwCl[ci]? = some (C, T, N)) {y : MethodName} {idx maxL mc ms na : Nat} {bytes : ByteArray} {ret : Option FieldType} {ws ws' : List Cond} {rm : Room} {As : List Value} {post : Int → St → Prop} (hM : Met l y ws rm (va_Pc (.ref (ga g b0) :: As) (World g σ)) (QI g post) mc ms (gA g)) (hG : GoodIn Ts (wsV own idx C y ws)) (hw : ws = Cond.code y bytes maxL ret :: ws') (hrc : rm.cells = mc) (hrs : rm.slots = ms) (hd : y.cls = C ∧ y.cls ≠ "java/lang/invoke/MethodHandle" ∧ y.cls ≠ "java/lang/invoke/VarHandle" ∧ (parseMethodDescriptor y.desc).map (fun d => d.parameters.length) = some na) (hR : rm.frames + 1 ≤ R.frames ∧ 8 + (maxL + 11) + rm.locals ≤ R.locals) (hna : As.length = na) (hst : st = As.reverse ++ .ref (ga g b0) :: rest) (hsum : (rest.map fun v => v.category).sum ≤ 8) (hf : k + mc ≤ R.cells ∧ n + ms ≤ R.slots) (d : decode cc pc = .ok (.invokevirtual idx, 3)) (kk : ∀ (z : Int) (u : St), R32 z → post z u → V g p l e R s m args below meth c nL (k + mc) (n + ms) Q u (pc + 3) lv (.int (iN z) :: rest)) : V g p l e R s m args below meth c nL k n Q σ pc lv st := by
  obtain ⟨⟨hx, hb, hml, hown, hts⟩, hwk, hg, hl9, hlk⟩ := X
  intro H locs ls hP hS hl
  have he : (cells g σ)[b0]? = some (ga g b0, .inr (ci, flds g (σ.1 b0) ci b0)) := by rw [cells_at hb0, cL_obj hkd h8]
  have hrun := va_runV (p := p) (l := l) (e := e) (R := R) (s := s) (m := m) (args := args) (below := below) (meth := meth) (c := c) (H := H) (locs := locs) (cells := k) (slots := n) (g := F0 m pc ls st) (rest := rest) (As := As) ⟨hx, hb, hml, hown, hts⟩ hM (cwV na hts hG hw hrc hrs hd hR) ⟨World.blind, va_recv hwk.1 hP (q0 := b0) hc he, fun U hU hW => ⟨rfl, World.call hwk hg hP hS hU hW⟩⟩ rfl hna hl.1 hst (lv_room hsum) d hf
  refine va_calli hrun hS (fun q _ h => h) (fun q h => h) (fun r u t H1 locs1 ht hvm hw hB hz hk1 hS1 => ?_)
  obtain ⟨z, rfl, hz0, hp⟩ := hw
  exact kk z u hz0 hp H1 locs1 ls (by rw [← ht]; exact hB) hS1 hl

theorem V_callV_Ix (X : Cx g p l R s m args meth c cc nL own Ts) {ci N : Nat} {T : u_T} {C : String} (b0 : Nat) (hb0 : b0 < 112) (hkd : kd b0 = ci) (h8 : ci < 8) (hc : vwCl[ci]? = some (C, T, N)) {y : MethodName} {idx maxL mc ms na : Nat} {bytes : ByteArray} {ret : Option FieldType} {ws ws' : List Cond} {rm : Room} {As : List Value} {post : Int → St → Prop} {px : String → St → Prop} (hM : vx_Met l y ws rm (va_Pc (.ref (ga g b0) :: As) (World g σ)) (QI g post) (XT g px) mc ms (gA g)) (hG : GoodIn Ts (wsV own idx C y ws)) (hw : ws = Cond.code y bytes maxL ret :: ws') (hrc : rm.cells = mc) (hrs : rm.slots = ms) (hd : y.cls = C ∧ y.cls ≠ "java/lang/invoke/MethodHandle" ∧ y.cls ≠ "java/lang/invoke/VarHandle" ∧ (parseMethodDescriptor y.desc).map (fun d => d.parameters.length) = some na) (hR : rm.frames + 1 ≤ R.frames ∧ 8 + (maxL + 11) + rm.locals ≤ R.locals) (hna : As.length = na) (hst : st = As.reverse ++ .ref (ga g b0) :: rest) (hsum : (rest.map fun v => v.category).sum ≤ 8) (hf : k + mc ≤ R.cells ∧ n + ms ≤ R.slots) (d : decode cc pc = .ok (.invokevirtual idx, 3)) (kx : ∀ (E : String) (u : St), px E u → VX g p l e R s m args below meth c nL (k + mc) (n + ms) Q u E pc lv rest) (kk : ∀ (z : Int) (u : St), R32 z → post z u → V g p l e R s m args below meth c nL (k + mc) (n + ms) Q u (pc + 3) lv (.int (iN z) :: rest)) : V g p l e R s m args below meth c nL k n Q σ pc lv st := by
  obtain ⟨⟨hx, hb, hml, hown, hts⟩, hwk, hg, hl9, hlk⟩ := X
  intro H locs ls hP hS hl
  have he : (cells g σ)[b0]? = some (ga g b0, .inr (ci, flds g (σ.1 b0) ci b0)) := by rw [cells_at hb0, cL_obj hkd h8]
  have hrun := vx_runV (p := p) (l := l) (e := e) (R := R) (s := s) (m := m) (args := args) (below := below) (meth := meth) (c := c) (H := H) (locs := locs) (cells := k) (slots := n) (g := F0 m pc ls st) (rest := rest) (As := As) ⟨hx, hb, hml, hown, hts⟩ hM (cwV na hts hG hw hrc hrs hd hR) ⟨World.blind, va_recv hwk.1 hP (q0 := b0) hc he, fun U hU hW => ⟨rfl, World.call hwk hg hP hS hU hW⟩⟩ rfl hna hl.1 hst (lv_room hsum) d hf
  refine vx_calli hrun hS (fun q _ h => h) (fun q h => h) (fun q _ h => h) (fun E ce q9 u t H1 locs1 ht hvm hp hB hz hk1 hS1 h1 h2 h3 => ?_) (fun r u t H1 locs1 ht hvm hw hB hz hk1 hS1 => ?_)
  · obtain ⟨E1, u⟩ := u
    obtain ⟨rfl, hB⟩ := hB
    exact kx E u hp H1 locs1 ls q9 ce (by rw [← ht]; exact hB) hS1 hl h1 h2 h3
  · obtain ⟨z, rfl, hz0, hp⟩ := hw
    exact kk z u hz0 hp H1 locs1 ls (by rw [← ht]; exact hB) hS1 hl

theorem V_callS_I (X : Cx g p l R s m args meth c cc nL own Ts) {y : MethodName} {idx maxL mc ms na : Nat} {bytes : ByteArray} {ret : Option FieldType} {ws ws' : List Cond} {rm : Room} {As : List Value} {post : Int → St → Prop} (hM : Met l y ws rm (va_Pc (As) (World g σ)) (QI g post) mc ms (gA g)) (hG : GoodIn Ts (va_wsS own idx y ws)) (hw : ws = Cond.code y bytes maxL ret :: ws') (hrc : rm.cells = mc) (hrs : rm.slots = ms) (hd : y.cls ≠ "java/lang/invoke/MethodHandle" ∧ y.cls ≠ "java/lang/invoke/VarHandle" ∧ (parseMethodDescriptor y.desc).map (fun d => d.parameters.length) = some na) (hR : rm.frames + 1 ≤ R.frames ∧ 8 + (maxL + 11) + rm.locals ≤ R.locals) (hna : As.length = na) (hst : st = As.reverse ++ rest) (hsum : (rest.map fun v => v.category).sum ≤ 8) (hf : k + mc ≤ R.cells ∧ n + ms ≤ R.slots) (d : decode cc pc = .ok (.invokestatic idx, 3)) (kk : ∀ (z : Int) (u : St), R32 z → post z u → V g p l e R s m args below meth c nL (k + mc) (n + ms) Q u (pc + 3) lv (.int (iN z) :: rest)) : V g p l e R s m args below meth c nL k n Q σ pc lv st := by
  obtain ⟨⟨hx, hb, hml, hown, hts⟩, hwk, hg, hl9, hlk⟩ := X
  intro H locs ls hP hS hl
  have hrun := va_runS (p := p) (l := l) (e := e) (R := R) (s := s) (m := m) (args := args) (below := below) (meth := meth) (c := c) (H := H) (locs := locs) (cells := k) (slots := n) (g := F0 m pc ls st) (rest := rest) (As := As) ⟨hx, hb, hml, hown, hts⟩ hM (va_cwS na hts hG hw hrc hrs hd hR) ⟨World.blind, fun U hU hW => ⟨rfl, World.call hwk hg hP hS hU hW⟩⟩ rfl hna hl.1 hst (lv_room hsum) d hf
  refine va_calli hrun hS (fun q _ h => h) (fun q h => h) (fun r u t H1 locs1 ht hvm hw hB hz hk1 hS1 => ?_)
  obtain ⟨z, rfl, hz0, hp⟩ := hw
  exact kk z u hz0 hp H1 locs1 ls (by rw [← ht]; exact hB) hS1 hl

theorem V_callS_Ix (X : Cx g p l R s m args meth c cc nL own Ts) {y : MethodName} {idx maxL mc ms na : Nat} {bytes : ByteArray} {ret : Option FieldType} {ws ws' : List Cond} {rm : Room} {As : List Value} {post : Int → St → Prop} {px : String → St → Prop} (hM : vx_Met l y ws rm (va_Pc (As) (World g σ)) (QI g post) (XT g px) mc ms (gA g)) (hG : GoodIn Ts (va_wsS own idx y ws)) (hw : ws = Cond.code y bytes maxL ret :: ws') (hrc : rm.cells = mc) (hrs : rm.slots = ms) (hd : y.cls ≠ "java/lang/invoke/MethodHandle" ∧ y.cls ≠ "java/lang/invoke/VarHandle" ∧ (parseMethodDescriptor y.desc).map (fun d => d.parameters.length) = some na) (hR : rm.frames + 1 ≤ R.frames ∧ 8 + (maxL + 11) + rm.locals ≤ R.locals) (hna : As.length = na) (hst : st = As.reverse ++ rest) (hsum : (rest.map fun v => v.category).sum ≤ 8) (hf : k + mc ≤ R.cells ∧ n + ms ≤ R.slots) (d : decode cc pc = .ok (.invokestatic idx, 3)) (kx : ∀ (E : String) (u : St), px E u → VX g p l e R s m args below meth c nL (k + mc) (n + ms) Q u E pc lv rest) (kk : ∀ (z : Int) (u : St), R32 z → post z u → V g p l e R s m args below meth c nL (k + mc) (n + ms) Q u (pc + 3) lv (.int (iN z) :: rest)) : V g p l e R s m args below meth c nL k n Q σ pc lv st := by
  obtain ⟨⟨hx, hb, hml, hown, hts⟩, hwk, hg, hl9, hlk⟩ := X
  intro H locs ls hP hS hl
  have hrun := vx_runS (p := p) (l := l) (e := e) (R := R) (s := s) (m := m) (args := args) (below := below) (meth := meth) (c := c) (H := H) (locs := locs) (cells := k) (slots := n) (g := F0 m pc ls st) (rest := rest) (As := As) ⟨hx, hb, hml, hown, hts⟩ hM (va_cwS na hts hG hw hrc hrs hd hR) ⟨World.blind, fun U hU hW => ⟨rfl, World.call hwk hg hP hS hU hW⟩⟩ rfl hna hl.1 hst (lv_room hsum) d hf
  refine vx_calli hrun hS (fun q _ h => h) (fun q h => h) (fun q _ h => h) (fun E ce q9 u t H1 locs1 ht hvm hp hB hz hk1 hS1 h1 h2 h3 => ?_) (fun r u t H1 locs1 ht hvm hw hB hz hk1 hS1 => ?_)
  · obtain ⟨E1, u⟩ := u
    obtain ⟨rfl, hB⟩ := hB
    exact kx E u hp H1 locs1 ls q9 ce (by rw [← ht]; exact hB) hS1 hl h1 h2 h3
  · obtain ⟨z, rfl, hz0, hp⟩ := hw
    exact kk z u hz0 hp H1 locs1 ls (by rw [← ht]; exact hB) hS1 hl

theorem V_callS_Iw (X : Cx g p l R s m args meth c cc nL own Ts) {hh : List (Nat × Nat × Nat × Nat)} {y : MethodName} {idx maxL mc ms na : Nat} {bytes : ByteArray} {ret : Option FieldType} {ws ws' : List Cond} {rm : Room} {As : List Value} {post : Int → St → Prop} {px : String → St → Prop} (hM : vx_Met l y ws rm (va_Pc (As) (World g σ)) (QI g post) (XT g px) mc ms (gA g)) (hG : GoodIn Ts (va_wsS own idx y ws)) (hw : ws = Cond.codeWith y bytes maxL ret hh :: ws') (hrc : rm.cells = mc) (hrs : rm.slots = ms) (hd : y.cls ≠ "java/lang/invoke/MethodHandle" ∧ y.cls ≠ "java/lang/invoke/VarHandle" ∧ (parseMethodDescriptor y.desc).map (fun d => d.parameters.length) = some na) (hR : rm.frames + 1 ≤ R.frames ∧ 8 + (maxL + 11) + rm.locals ≤ R.locals) (hna : As.length = na) (hst : st = As.reverse ++ rest) (hsum : (rest.map fun v => v.category).sum ≤ 8) (hf : k + mc ≤ R.cells ∧ n + ms ≤ R.slots) (d : decode cc pc = .ok (.invokestatic idx, 3)) (kx : ∀ (E : String) (u : St), px E u → VX g p l e R s m args below meth c nL (k + mc) (n + ms) Q u E pc lv rest) (kk : ∀ (z : Int) (u : St), R32 z → post z u → V g p l e R s m args below meth c nL (k + mc) (n + ms) Q u (pc + 3) lv (.int (iN z) :: rest)) : V g p l e R s m args below meth c nL k n Q σ pc lv st := by
  obtain ⟨⟨hx, hb, hml, hown, hts⟩, hwk, hg, hl9, hlk⟩ := X
  intro H locs ls hP hS hl
  have hrun := vx_runSX (p := p) (l := l) (e := e) (R := R) (s := s) (m := m) (args := args) (below := below) (meth := meth) (c := c) (H := H) (locs := locs) (cells := k) (slots := n) (g := F0 m pc ls st) (rest := rest) (As := As) ⟨hx, hb, hml, hown, hts⟩ hM (vx_cwSW na hts hG hw hrc hrs hd hR) ⟨World.blind, fun U hU hW => ⟨rfl, World.call hwk hg hP hS hU hW⟩⟩ rfl hna hl.1 hst (lv_room hsum) d hf
  refine vx_calli hrun hS (fun q _ h => h) (fun q h => h) (fun q _ h => h) (fun E ce q9 u t H1 locs1 ht hvm hp hB hz hk1 hS1 h1 h2 h3 => ?_) (fun r u t H1 locs1 ht hvm hw hB hz hk1 hS1 => ?_)
  · obtain ⟨E1, u⟩ := u
    obtain ⟨rfl, hB⟩ := hB
    exact kx E u hp H1 locs1 ls q9 ce (by rw [← ht]; exact hB) hS1 hl h1 h2 h3
  · obtain ⟨z, rfl, hz0, hp⟩ := hw
    exact kk z u hz0 hp H1 locs1 ls (by rw [← ht]; exact hB) hS1 hl

theorem V_callV_L (X : Cx g p l R s m args meth c cc nL own Ts) {ci N : Nat} {T : u_T} {C : String} (b0 : Nat) (hb0 : b0 < 112) (hkd : kd b0 = ci) (h8 : ci < 8) (hc : vwCl[ci]? = some (C, T, N)) {y : MethodName} {idx maxL mc ms na : Nat} {bytes : ByteArray} {ret : Option FieldType} {ws ws' : List Cond} {rm : Room} {As : List Value} {post : Int → St → Prop} (hM : Met l y ws rm (va_Pc (.ref (ga g b0) :: As) (World g σ)) (QL g post) mc ms (gA g)) (hG : GoodIn Ts (wsV own idx C y ws)) (hw : ws = Cond.code y bytes maxL ret :: ws') (hrc : rm.cells = mc) (hrs : rm.slots = ms) (hd : y.cls = C ∧ y.cls ≠ "java/lang/invoke/MethodHandle" ∧ y.cls ≠ "java/lang/invoke/VarHandle" ∧ (parseMethodDescriptor y.desc).map (fun d => d.parameters.length) = some na) (hR : rm.frames + 1 ≤ R.frames ∧ 8 + (maxL + 11) + rm.locals ≤ R.locals) (hna : As.length = na) (hst : st = As.reverse ++ .ref (ga g b0) :: rest) (hsum : (rest.map fun v => v.category).sum ≤ 8) (hf : k + mc ≤ R.cells ∧ n + ms ≤ R.slots) (d : decode cc pc = .ok (.invokevirtual idx, 3)) (kk : ∀ (z : Int) (u : St), post z u → V g p l e R s m args below meth c nL (k + mc) (n + ms) Q u (pc + 3) lv (.long (lI z) :: rest)) : V g p l e R s m args below meth c nL k n Q σ pc lv st := by
  obtain ⟨⟨hx, hb, hml, hown, hts⟩, hwk, hg, hl9, hlk⟩ := X
  intro H locs ls hP hS hl
  have he : (cells g σ)[b0]? = some (ga g b0, .inr (ci, flds g (σ.1 b0) ci b0)) := by rw [cells_at hb0, cL_obj hkd h8]
  have hrun := va_runV (p := p) (l := l) (e := e) (R := R) (s := s) (m := m) (args := args) (below := below) (meth := meth) (c := c) (H := H) (locs := locs) (cells := k) (slots := n) (g := F0 m pc ls st) (rest := rest) (As := As) ⟨hx, hb, hml, hown, hts⟩ hM (cwV na hts hG hw hrc hrs hd hR) ⟨World.blind, va_recv hwk.1 hP (q0 := b0) hc he, fun U hU hW => ⟨rfl, World.call hwk hg hP hS hU hW⟩⟩ rfl hna hl.1 hst (lv_room hsum) d hf
  refine va_calll hrun hS (fun q _ h => h) (fun q h => h) (fun r u t H1 locs1 ht hvm hw hB hz hk1 hS1 => ?_)
  obtain ⟨z, rfl, hp⟩ := hw
  exact kk z u hp H1 locs1 ls (by rw [← ht]; exact hB) hS1 hl

theorem V_callV_Lx (X : Cx g p l R s m args meth c cc nL own Ts) {ci N : Nat} {T : u_T} {C : String} (b0 : Nat) (hb0 : b0 < 112) (hkd : kd b0 = ci) (h8 : ci < 8) (hc : vwCl[ci]? = some (C, T, N)) {y : MethodName} {idx maxL mc ms na : Nat} {bytes : ByteArray} {ret : Option FieldType} {ws ws' : List Cond} {rm : Room} {As : List Value} {post : Int → St → Prop} {px : String → St → Prop} (hM : vx_Met l y ws rm (va_Pc (.ref (ga g b0) :: As) (World g σ)) (QL g post) (XT g px) mc ms (gA g)) (hG : GoodIn Ts (wsV own idx C y ws)) (hw : ws = Cond.code y bytes maxL ret :: ws') (hrc : rm.cells = mc) (hrs : rm.slots = ms) (hd : y.cls = C ∧ y.cls ≠ "java/lang/invoke/MethodHandle" ∧ y.cls ≠ "java/lang/invoke/VarHandle" ∧ (parseMethodDescriptor y.desc).map (fun d => d.parameters.length) = some na) (hR : rm.frames + 1 ≤ R.frames ∧ 8 + (maxL + 11) + rm.locals ≤ R.locals) (hna : As.length = na) (hst : st = As.reverse ++ .ref (ga g b0) :: rest) (hsum : (rest.map fun v => v.category).sum ≤ 8) (hf : k + mc ≤ R.cells ∧ n + ms ≤ R.slots) (d : decode cc pc = .ok (.invokevirtual idx, 3)) (kx : ∀ (E : String) (u : St), px E u → VX g p l e R s m args below meth c nL (k + mc) (n + ms) Q u E pc lv rest) (kk : ∀ (z : Int) (u : St), post z u → V g p l e R s m args below meth c nL (k + mc) (n + ms) Q u (pc + 3) lv (.long (lI z) :: rest)) : V g p l e R s m args below meth c nL k n Q σ pc lv st := by
  obtain ⟨⟨hx, hb, hml, hown, hts⟩, hwk, hg, hl9, hlk⟩ := X
  intro H locs ls hP hS hl
  have he : (cells g σ)[b0]? = some (ga g b0, .inr (ci, flds g (σ.1 b0) ci b0)) := by rw [cells_at hb0, cL_obj hkd h8]
  have hrun := vx_runV (p := p) (l := l) (e := e) (R := R) (s := s) (m := m) (args := args) (below := below) (meth := meth) (c := c) (H := H) (locs := locs) (cells := k) (slots := n) (g := F0 m pc ls st) (rest := rest) (As := As) ⟨hx, hb, hml, hown, hts⟩ hM (cwV na hts hG hw hrc hrs hd hR) ⟨World.blind, va_recv hwk.1 hP (q0 := b0) hc he, fun U hU hW => ⟨rfl, World.call hwk hg hP hS hU hW⟩⟩ rfl hna hl.1 hst (lv_room hsum) d hf
  refine vx_calll hrun hS (fun q _ h => h) (fun q h => h) (fun q _ h => h) (fun E ce q9 u t H1 locs1 ht hvm hp hB hz hk1 hS1 h1 h2 h3 => ?_) (fun r u t H1 locs1 ht hvm hw hB hz hk1 hS1 => ?_)
  · obtain ⟨E1, u⟩ := u
    obtain ⟨rfl, hB⟩ := hB
    exact kx E u hp H1 locs1 ls q9 ce (by rw [← ht]; exact hB) hS1 hl h1 h2 h3
  · obtain ⟨z, rfl, hp⟩ := hw
    exact kk z u hp H1 locs1 ls (by rw [← ht]; exact hB) hS1 hl

theorem V_callS_L (X : Cx g p l R s m args meth c cc nL own Ts) {y : MethodName} {idx maxL mc ms na : Nat} {bytes : ByteArray} {ret : Option FieldType} {ws ws' : List Cond} {rm : Room} {As : List Value} {post : Int → St → Prop} (hM : Met l y ws rm (va_Pc (As) (World g σ)) (QL g post) mc ms (gA g)) (hG : GoodIn Ts (va_wsS own idx y ws)) (hw : ws = Cond.code y bytes maxL ret :: ws') (hrc : rm.cells = mc) (hrs : rm.slots = ms) (hd : y.cls ≠ "java/lang/invoke/MethodHandle" ∧ y.cls ≠ "java/lang/invoke/VarHandle" ∧ (parseMethodDescriptor y.desc).map (fun d => d.parameters.length) = some na) (hR : rm.frames + 1 ≤ R.frames ∧ 8 + (maxL + 11) + rm.locals ≤ R.locals) (hna : As.length = na) (hst : st = As.reverse ++ rest) (hsum : (rest.map fun v => v.category).sum ≤ 8) (hf : k + mc ≤ R.cells ∧ n + ms ≤ R.slots) (d : decode cc pc = .ok (.invokestatic idx, 3)) (kk : ∀ (z : Int) (u : St), post z u → V g p l e R s m args below meth c nL (k + mc) (n + ms) Q u (pc + 3) lv (.long (lI z) :: rest)) : V g p l e R s m args below meth c nL k n Q σ pc lv st := by
  obtain ⟨⟨hx, hb, hml, hown, hts⟩, hwk, hg, hl9, hlk⟩ := X
  intro H locs ls hP hS hl
  have hrun := va_runS (p := p) (l := l) (e := e) (R := R) (s := s) (m := m) (args := args) (below := below) (meth := meth) (c := c) (H := H) (locs := locs) (cells := k) (slots := n) (g := F0 m pc ls st) (rest := rest) (As := As) ⟨hx, hb, hml, hown, hts⟩ hM (va_cwS na hts hG hw hrc hrs hd hR) ⟨World.blind, fun U hU hW => ⟨rfl, World.call hwk hg hP hS hU hW⟩⟩ rfl hna hl.1 hst (lv_room hsum) d hf
  refine va_calll hrun hS (fun q _ h => h) (fun q h => h) (fun r u t H1 locs1 ht hvm hw hB hz hk1 hS1 => ?_)
  obtain ⟨z, rfl, hp⟩ := hw
  exact kk z u hp H1 locs1 ls (by rw [← ht]; exact hB) hS1 hl

theorem V_callS_Lx (X : Cx g p l R s m args meth c cc nL own Ts) {y : MethodName} {idx maxL mc ms na : Nat} {bytes : ByteArray} {ret : Option FieldType} {ws ws' : List Cond} {rm : Room} {As : List Value} {post : Int → St → Prop} {px : String → St → Prop} (hM : vx_Met l y ws rm (va_Pc (As) (World g σ)) (QL g post) (XT g px) mc ms (gA g)) (hG : GoodIn Ts (va_wsS own idx y ws)) (hw : ws = Cond.code y bytes maxL ret :: ws') (hrc : rm.cells = mc) (hrs : rm.slots = ms) (hd : y.cls ≠ "java/lang/invoke/MethodHandle" ∧ y.cls ≠ "java/lang/invoke/VarHandle" ∧ (parseMethodDescriptor y.desc).map (fun d => d.parameters.length) = some na) (hR : rm.frames + 1 ≤ R.frames ∧ 8 + (maxL + 11) + rm.locals ≤ R.locals) (hna : As.length = na) (hst : st = As.reverse ++ rest) (hsum : (rest.map fun v => v.category).sum ≤ 8) (hf : k + mc ≤ R.cells ∧ n + ms ≤ R.slots) (d : decode cc pc = .ok (.invokestatic idx, 3)) (kx : ∀ (E : String) (u : St), px E u → VX g p l e R s m args below meth c nL (k + mc) (n + ms) Q u E pc lv rest) (kk : ∀ (z : Int) (u : St), post z u → V g p l e R s m args below meth c nL (k + mc) (n + ms) Q u (pc + 3) lv (.long (lI z) :: rest)) : V g p l e R s m args below meth c nL k n Q σ pc lv st := by
  obtain ⟨⟨hx, hb, hml, hown, hts⟩, hwk, hg, hl9, hlk⟩ := X
  intro H locs ls hP hS hl
  have hrun := vx_runS (p := p) (l := l) (e := e) (R := R) (s := s) (m := m) (args := args) (below := below) (meth := meth) (c := c) (H := H) (locs := locs) (cells := k) (slots := n) (g := F0 m pc ls st) (rest := rest) (As := As) ⟨hx, hb, hml, hown, hts⟩ hM (va_cwS na hts hG hw hrc hrs hd hR) ⟨World.blind, fun U hU hW => ⟨rfl, World.call hwk hg hP hS hU hW⟩⟩ rfl hna hl.1 hst (lv_room hsum) d hf
  refine vx_calll hrun hS (fun q _ h => h) (fun q h => h) (fun q _ h => h) (fun E ce q9 u t H1 locs1 ht hvm hp hB hz hk1 hS1 h1 h2 h3 => ?_) (fun r u t H1 locs1 ht hvm hw hB hz hk1 hS1 => ?_)
  · obtain ⟨E1, u⟩ := u
    obtain ⟨rfl, hB⟩ := hB
    exact kx E u hp H1 locs1 ls q9 ce (by rw [← ht]; exact hB) hS1 hl h1 h2 h3
  · obtain ⟨z, rfl, hp⟩ := hw
    exact kk z u hp H1 locs1 ls (by rw [← ht]; exact hB) hS1 hl

theorem V_callS_Lw (X : Cx g p l R s m args meth c cc nL own Ts) {hh : List (Nat × Nat × Nat × Nat)} {y : MethodName} {idx maxL mc ms na : Nat} {bytes : ByteArray} {ret : Option FieldType} {ws ws' : List Cond} {rm : Room} {As : List Value} {post : Int → St → Prop} {px : String → St → Prop} (hM : vx_Met l y ws rm (va_Pc (As) (World g σ)) (QL g post) (XT g px) mc ms (gA g)) (hG : GoodIn Ts (va_wsS own idx y ws)) (hw : ws = Cond.codeWith y bytes maxL ret hh :: ws') (hrc : rm.cells = mc) (hrs : rm.slots = ms) (hd : y.cls ≠ "java/lang/invoke/MethodHandle" ∧ y.cls ≠ "java/lang/invoke/VarHandle" ∧ (parseMethodDescriptor y.desc).map (fun d => d.parameters.length) = some na) (hR : rm.frames + 1 ≤ R.frames ∧ 8 + (maxL + 11) + rm.locals ≤ R.locals) (hna : As.length = na) (hst : st = As.reverse ++ rest) (hsum : (rest.map fun v => v.category).sum ≤ 8) (hf : k + mc ≤ R.cells ∧ n + ms ≤ R.slots) (d : decode cc pc = .ok (.invokestatic idx, 3)) (kx : ∀ (E : String) (u : St), px E u → VX g p l e R s m args below meth c nL (k + mc) (n + ms) Q u E pc lv rest) (kk : ∀ (z : Int) (u : St), post z u → V g p l e R s m args below meth c nL (k + mc) (n + ms) Q u (pc + 3) lv (.long (lI z) :: rest)) : V g p l e R s m args below meth c nL k n Q σ pc lv st := by
  obtain ⟨⟨hx, hb, hml, hown, hts⟩, hwk, hg, hl9, hlk⟩ := X
  intro H locs ls hP hS hl
  have hrun := vx_runSX (p := p) (l := l) (e := e) (R := R) (s := s) (m := m) (args := args) (below := below) (meth := meth) (c := c) (H := H) (locs := locs) (cells := k) (slots := n) (g := F0 m pc ls st) (rest := rest) (As := As) ⟨hx, hb, hml, hown, hts⟩ hM (vx_cwSW na hts hG hw hrc hrs hd hR) ⟨World.blind, fun U hU hW => ⟨rfl, World.call hwk hg hP hS hU hW⟩⟩ rfl hna hl.1 hst (lv_room hsum) d hf
  refine vx_calll hrun hS (fun q _ h => h) (fun q h => h) (fun q _ h => h) (fun E ce q9 u t H1 locs1 ht hvm hp hB hz hk1 hS1 h1 h2 h3 => ?_) (fun r u t H1 locs1 ht hvm hw hB hz hk1 hS1 => ?_)
  · obtain ⟨E1, u⟩ := u
    obtain ⟨rfl, hB⟩ := hB
    exact kx E u hp H1 locs1 ls q9 ce (by rw [← ht]; exact hB) hS1 hl h1 h2 h3
  · obtain ⟨z, rfl, hp⟩ := hw
    exact kk z u hp H1 locs1 ls (by rw [← ht]; exact hB) hS1 hl

theorem V_callV_F (X : Cx g p l R s m args meth c cc nL own Ts) {ci N : Nat} {T : u_T} {C : String} (b0 : Nat) (hb0 : b0 < 112) (hkd : kd b0 = ci) (h8 : ci < 8) (hc : vwCl[ci]? = some (C, T, N)) {y : MethodName} {idx maxL mc ms na : Nat} {bytes : ByteArray} {ret : Option FieldType} {ws ws' : List Cond} {rm : Room} {As : List Value} {post : UInt32 → St → Prop} (hM : Met l y ws rm (va_Pc (.ref (ga g b0) :: As) (World g σ)) (QF g post) mc ms (gA g)) (hG : GoodIn Ts (wsV own idx C y ws)) (hw : ws = Cond.code y bytes maxL ret :: ws') (hrc : rm.cells = mc) (hrs : rm.slots = ms) (hd : y.cls = C ∧ y.cls ≠ "java/lang/invoke/MethodHandle" ∧ y.cls ≠ "java/lang/invoke/VarHandle" ∧ (parseMethodDescriptor y.desc).map (fun d => d.parameters.length) = some na) (hR : rm.frames + 1 ≤ R.frames ∧ 8 + (maxL + 11) + rm.locals ≤ R.locals) (hna : As.length = na) (hst : st = As.reverse ++ .ref (ga g b0) :: rest) (hsum : (rest.map fun v => v.category).sum ≤ 8) (hf : k + mc ≤ R.cells ∧ n + ms ≤ R.slots) (d : decode cc pc = .ok (.invokevirtual idx, 3)) (kk : ∀ (z : UInt32) (u : St), post z u → V g p l e R s m args below meth c nL (k + mc) (n + ms) Q u (pc + 3) lv (.float z :: rest)) : V g p l e R s m args below meth c nL k n Q σ pc lv st := by
  obtain ⟨⟨hx, hb, hml, hown, hts⟩, hwk, hg, hl9, hlk⟩ := X
  intro H locs ls hP hS hl
  have he : (cells g σ)[b0]? = some (ga g b0, .inr (ci, flds g (σ.1 b0) ci b0)) := by rw [cells_at hb0, cL_obj hkd h8]
  have hrun := va_runV (p := p) (l := l) (e := e) (R := R) (s := s) (m := m) (args := args) (below := below) (meth := meth) (c := c) (H := H) (locs := locs) (cells := k) (slots := n) (g := F0 m pc ls st) (rest := rest) (As := As) ⟨hx, hb, hml, hown, hts⟩ hM (cwV na hts hG hw hrc hrs hd hR) ⟨World.blind, va_recv hwk.1 hP (q0 := b0) hc he, fun U hU hW => ⟨rfl, World.call hwk hg hP hS hU hW⟩⟩ rfl hna hl.1 hst (lv_room hsum) d hf
  refine va_callf hrun hS (fun q _ h => h) (fun q h => h) (fun r u t H1 locs1 ht hvm hw hB hz hk1 hS1 => ?_)
  have hp := hw
  exact kk r u hp H1 locs1 ls (by rw [← ht]; exact hB) hS1 hl

theorem V_callV_Fx (X : Cx g p l R s m args meth c cc nL own Ts) {ci N : Nat} {T : u_T} {C : String} (b0 : Nat) (hb0 : b0 < 112) (hkd : kd b0 = ci) (h8 : ci < 8) (hc : vwCl[ci]? = some (C, T, N)) {y : MethodName} {idx maxL mc ms na : Nat} {bytes : ByteArray} {ret : Option FieldType} {ws ws' : List Cond} {rm : Room} {As : List Value} {post : UInt32 → St → Prop} {px : String → St → Prop} (hM : vx_Met l y ws rm (va_Pc (.ref (ga g b0) :: As) (World g σ)) (QF g post) (XT g px) mc ms (gA g)) (hG : GoodIn Ts (wsV own idx C y ws)) (hw : ws = Cond.code y bytes maxL ret :: ws') (hrc : rm.cells = mc) (hrs : rm.slots = ms) (hd : y.cls = C ∧ y.cls ≠ "java/lang/invoke/MethodHandle" ∧ y.cls ≠ "java/lang/invoke/VarHandle" ∧ (parseMethodDescriptor y.desc).map (fun d => d.parameters.length) = some na) (hR : rm.frames + 1 ≤ R.frames ∧ 8 + (maxL + 11) + rm.locals ≤ R.locals) (hna : As.length = na) (hst : st = As.reverse ++ .ref (ga g b0) :: rest) (hsum : (rest.map fun v => v.category).sum ≤ 8) (hf : k + mc ≤ R.cells ∧ n + ms ≤ R.slots) (d : decode cc pc = .ok (.invokevirtual idx, 3)) (kx : ∀ (E : String) (u : St), px E u → VX g p l e R s m args below meth c nL (k + mc) (n + ms) Q u E pc lv rest) (kk : ∀ (z : UInt32) (u : St), post z u → V g p l e R s m args below meth c nL (k + mc) (n + ms) Q u (pc + 3) lv (.float z :: rest)) : V g p l e R s m args below meth c nL k n Q σ pc lv st := by
  obtain ⟨⟨hx, hb, hml, hown, hts⟩, hwk, hg, hl9, hlk⟩ := X
  intro H locs ls hP hS hl
  have he : (cells g σ)[b0]? = some (ga g b0, .inr (ci, flds g (σ.1 b0) ci b0)) := by rw [cells_at hb0, cL_obj hkd h8]
  have hrun := vx_runV (p := p) (l := l) (e := e) (R := R) (s := s) (m := m) (args := args) (below := below) (meth := meth) (c := c) (H := H) (locs := locs) (cells := k) (slots := n) (g := F0 m pc ls st) (rest := rest) (As := As) ⟨hx, hb, hml, hown, hts⟩ hM (cwV na hts hG hw hrc hrs hd hR) ⟨World.blind, va_recv hwk.1 hP (q0 := b0) hc he, fun U hU hW => ⟨rfl, World.call hwk hg hP hS hU hW⟩⟩ rfl hna hl.1 hst (lv_room hsum) d hf
  refine vx_callf hrun hS (fun q _ h => h) (fun q h => h) (fun q _ h => h) (fun E ce q9 u t H1 locs1 ht hvm hp hB hz hk1 hS1 h1 h2 h3 => ?_) (fun r u t H1 locs1 ht hvm hw hB hz hk1 hS1 => ?_)
  · obtain ⟨E1, u⟩ := u
    obtain ⟨rfl, hB⟩ := hB
    exact kx E u hp H1 locs1 ls q9 ce (by rw [← ht]; exact hB) hS1 hl h1 h2 h3
  · have hp := hw
    exact kk r u hp H1 locs1 ls (by rw [← ht]; exact hB) hS1 hl

theorem V_callS_F (X : Cx g p l R s m args meth c cc nL own Ts) {y : MethodName} {idx maxL mc ms na : Nat} {bytes : ByteArray} {ret : Option FieldType} {ws ws' : List Cond} {rm : Room} {As : List Value} {post : UInt32 → St → Prop} (hM : Met l y ws rm (va_Pc (As) (World g σ)) (QF g post) mc ms (gA g)) (hG : GoodIn Ts (va_wsS own idx y ws)) (hw : ws = Cond.code y bytes maxL ret :: ws') (hrc : rm.cells = mc) (hrs : rm.slots = ms) (hd : y.cls ≠ "java/lang/invoke/MethodHandle" ∧ y.cls ≠ "java/lang/invoke/VarHandle" ∧ (parseMethodDescriptor y.desc).map (fun d => d.parameters.length) = some na) (hR : rm.frames + 1 ≤ R.frames ∧ 8 + (maxL + 11) + rm.locals ≤ R.locals) (hna : As.length = na) (hst : st = As.reverse ++ rest) (hsum : (rest.map fun v => v.category).sum ≤ 8) (hf : k + mc ≤ R.cells ∧ n + ms ≤ R.slots) (d : decode cc pc = .ok (.invokestatic idx, 3)) (kk : ∀ (z : UInt32) (u : St), post z u → V g p l e R s m args below meth c nL (k + mc) (n + ms) Q u (pc + 3) lv (.float z :: rest)) : V g p l e R s m args below meth c nL k n Q σ pc lv st := by
  obtain ⟨⟨hx, hb, hml, hown, hts⟩, hwk, hg, hl9, hlk⟩ := X
  intro H locs ls hP hS hl
  have hrun := va_runS (p := p) (l := l) (e := e) (R := R) (s := s) (m := m) (args := args) (below := below) (meth := meth) (c := c) (H := H) (locs := locs) (cells := k) (slots := n) (g := F0 m pc ls st) (rest := rest) (As := As) ⟨hx, hb, hml, hown, hts⟩ hM (va_cwS na hts hG hw hrc hrs hd hR) ⟨World.blind, fun U hU hW => ⟨rfl, World.call hwk hg hP hS hU hW⟩⟩ rfl hna hl.1 hst (lv_room hsum) d hf
  refine va_callf hrun hS (fun q _ h => h) (fun q h => h) (fun r u t H1 locs1 ht hvm hw hB hz hk1 hS1 => ?_)
  have hp := hw
  exact kk r u hp H1 locs1 ls (by rw [← ht]; exact hB) hS1 hl

theorem V_callS_Fx (X : Cx g p l R s m args meth c cc nL own Ts) {y : MethodName} {idx maxL mc ms na : Nat} {bytes : ByteArray} {ret : Option FieldType} {ws ws' : List Cond} {rm : Room} {As : List Value} {post : UInt32 → St → Prop} {px : String → St → Prop} (hM : vx_Met l y ws rm (va_Pc (As) (World g σ)) (QF g post) (XT g px) mc ms (gA g)) (hG : GoodIn Ts (va_wsS own idx y ws)) (hw : ws = Cond.code y bytes maxL ret :: ws') (hrc : rm.cells = mc) (hrs : rm.slots = ms) (hd : y.cls ≠ "java/lang/invoke/MethodHandle" ∧ y.cls ≠ "java/lang/invoke/VarHandle" ∧ (parseMethodDescriptor y.desc).map (fun d => d.parameters.length) = some na) (hR : rm.frames + 1 ≤ R.frames ∧ 8 + (maxL + 11) + rm.locals ≤ R.locals) (hna : As.length = na) (hst : st = As.reverse ++ rest) (hsum : (rest.map fun v => v.category).sum ≤ 8) (hf : k + mc ≤ R.cells ∧ n + ms ≤ R.slots) (d : decode cc pc = .ok (.invokestatic idx, 3)) (kx : ∀ (E : String) (u : St), px E u → VX g p l e R s m args below meth c nL (k + mc) (n + ms) Q u E pc lv rest) (kk : ∀ (z : UInt32) (u : St), post z u → V g p l e R s m args below meth c nL (k + mc) (n + ms) Q u (pc + 3) lv (.float z :: rest)) : V g p l e R s m args below meth c nL k n Q σ pc lv st := by
  obtain ⟨⟨hx, hb, hml, hown, hts⟩, hwk, hg, hl9, hlk⟩ := X
  intro H locs ls hP hS hl
  have hrun := vx_runS (p := p) (l := l) (e := e) (R := R) (s := s) (m := m) (args := args) (below := below) (meth := meth) (c := c) (H := H) (locs := locs) (cells := k) (slots := n) (g := F0 m pc ls st) (rest := rest) (As := As) ⟨hx, hb, hml, hown, hts⟩ hM (va_cwS na hts hG hw hrc hrs hd hR) ⟨World.blind, fun U hU hW => ⟨rfl, World.call hwk hg hP hS hU hW⟩⟩ rfl hna hl.1 hst (lv_room hsum) d hf
  refine vx_callf hrun hS (fun q _ h => h) (fun q h => h) (fun q _ h => h) (fun E ce q9 u t H1 locs1 ht hvm hp hB hz hk1 hS1 h1 h2 h3 => ?_) (fun r u t H1 locs1 ht hvm hw hB hz hk1 hS1 => ?_)
  · obtain ⟨E1, u⟩ := u
    obtain ⟨rfl, hB⟩ := hB
    exact kx E u hp H1 locs1 ls q9 ce (by rw [← ht]; exact hB) hS1 hl h1 h2 h3
  · have hp := hw
    exact kk r u hp H1 locs1 ls (by rw [← ht]; exact hB) hS1 hl

theorem V_callS_Fw (X : Cx g p l R s m args meth c cc nL own Ts) {hh : List (Nat × Nat × Nat × Nat)} {y : MethodName} {idx maxL mc ms na : Nat} {bytes : ByteArray} {ret : Option FieldType} {ws ws' : List Cond} {rm : Room} {As : List Value} {post : UInt32 → St → Prop} {px : String → St → Prop} (hM : vx_Met l y ws rm (va_Pc (As) (World g σ)) (QF g post) (XT g px) mc ms (gA g)) (hG : GoodIn Ts (va_wsS own idx y ws)) (hw : ws = Cond.codeWith y bytes maxL ret hh :: ws') (hrc : rm.cells = mc) (hrs : rm.slots = ms) (hd : y.cls ≠ "java/lang/invoke/MethodHandle" ∧ y.cls ≠ "java/lang/invoke/VarHandle" ∧ (parseMethodDescriptor y.desc).map (fun d => d.parameters.length) = some na) (hR : rm.frames + 1 ≤ R.frames ∧ 8 + (maxL + 11) + rm.locals ≤ R.locals) (hna : As.length = na) (hst : st = As.reverse ++ rest) (hsum : (rest.map fun v => v.category).sum ≤ 8) (hf : k + mc ≤ R.cells ∧ n + ms ≤ R.slots) (d : decode cc pc = .ok (.invokestatic idx, 3)) (kx : ∀ (E : String) (u : St), px E u → VX g p l e R s m args below meth c nL (k + mc) (n + ms) Q u E pc lv rest) (kk : ∀ (z : UInt32) (u : St), post z u → V g p l e R s m args below meth c nL (k + mc) (n + ms) Q u (pc + 3) lv (.float z :: rest)) : V g p l e R s m args below meth c nL k n Q σ pc lv st := by
  obtain ⟨⟨hx, hb, hml, hown, hts⟩, hwk, hg, hl9, hlk⟩ := X
  intro H locs ls hP hS hl
  have hrun := vx_runSX (p := p) (l := l) (e := e) (R := R) (s := s) (m := m) (args := args) (below := below) (meth := meth) (c := c) (H := H) (locs := locs) (cells := k) (slots := n) (g := F0 m pc ls st) (rest := rest) (As := As) ⟨hx, hb, hml, hown, hts⟩ hM (vx_cwSW na hts hG hw hrc hrs hd hR) ⟨World.blind, fun U hU hW => ⟨rfl, World.call hwk hg hP hS hU hW⟩⟩ rfl hna hl.1 hst (lv_room hsum) d hf
  refine vx_callf hrun hS (fun q _ h => h) (fun q h => h) (fun q _ h => h) (fun E ce q9 u t H1 locs1 ht hvm hp hB hz hk1 hS1 h1 h2 h3 => ?_) (fun r u t H1 locs1 ht hvm hw hB hz hk1 hS1 => ?_)
  · obtain ⟨E1, u⟩ := u
    obtain ⟨rfl, hB⟩ := hB
    exact kx E u hp H1 locs1 ls q9 ce (by rw [← ht]; exact hB) hS1 hl h1 h2 h3
  · have hp := hw
    exact kk r u hp H1 locs1 ls (by rw [← ht]; exact hB) hS1 hl

theorem V_callV_D (X : Cx g p l R s m args meth c cc nL own Ts) {ci N : Nat} {T : u_T} {C : String} (b0 : Nat) (hb0 : b0 < 112) (hkd : kd b0 = ci) (h8 : ci < 8) (hc : vwCl[ci]? = some (C, T, N)) {y : MethodName} {idx maxL mc ms na : Nat} {bytes : ByteArray} {ret : Option FieldType} {ws ws' : List Cond} {rm : Room} {As : List Value} {post : UInt64 → St → Prop} (hM : Met l y ws rm (va_Pc (.ref (ga g b0) :: As) (World g σ)) (QD g post) mc ms (gA g)) (hG : GoodIn Ts (wsV own idx C y ws)) (hw : ws = Cond.code y bytes maxL ret :: ws') (hrc : rm.cells = mc) (hrs : rm.slots = ms) (hd : y.cls = C ∧ y.cls ≠ "java/lang/invoke/MethodHandle" ∧ y.cls ≠ "java/lang/invoke/VarHandle" ∧ (parseMethodDescriptor y.desc).map (fun d => d.parameters.length) = some na) (hR : rm.frames + 1 ≤ R.frames ∧ 8 + (maxL + 11) + rm.locals ≤ R.locals) (hna : As.length = na) (hst : st = As.reverse ++ .ref (ga g b0) :: rest) (hsum : (rest.map fun v => v.category).sum ≤ 8) (hf : k + mc ≤ R.cells ∧ n + ms ≤ R.slots) (d : decode cc pc = .ok (.invokevirtual idx, 3)) (kk : ∀ (z : UInt64) (u : St), post z u → V g p l e R s m args below meth c nL (k + mc) (n + ms) Q u (pc + 3) lv (.double z :: rest)) : V g p l e R s m args below meth c nL k n Q σ pc lv st := by
  obtain ⟨⟨hx, hb, hml, hown, hts⟩, hwk, hg, hl9, hlk⟩ := X
  intro H locs ls hP hS hl
  have he : (cells g σ)[b0]? = some (ga g b0, .inr (ci, flds g (σ.1 b0) ci b0)) := by rw [cells_at hb0, cL_obj hkd h8]
  have hrun := va_runV (p := p) (l := l) (e := e) (R := R) (s := s) (m := m) (args := args) (below := below) (meth := meth) (c := c) (H := H) (locs := locs) (cells := k) (slots := n) (g := F0 m pc ls st) (rest := rest) (As := As) ⟨hx, hb, hml, hown, hts⟩ hM (cwV na hts hG hw hrc hrs hd hR) ⟨World.blind, va_recv hwk.1 hP (q0 := b0) hc he, fun U hU hW => ⟨rfl, World.call hwk hg hP hS hU hW⟩⟩ rfl hna hl.1 hst (lv_room hsum) d hf
  refine va_calld hrun hS (fun q _ h => h) (fun q h => h) (fun r u t H1 locs1 ht hvm hw hB hz hk1 hS1 => ?_)
  have hp := hw
  exact kk r u hp H1 locs1 ls (by rw [← ht]; exact hB) hS1 hl

theorem V_callV_Dx (X : Cx g p l R s m args meth c cc nL own Ts) {ci N : Nat} {T : u_T} {C : String} (b0 : Nat) (hb0 : b0 < 112) (hkd : kd b0 = ci) (h8 : ci < 8) (hc : vwCl[ci]? = some (C, T, N)) {y : MethodName} {idx maxL mc ms na : Nat} {bytes : ByteArray} {ret : Option FieldType} {ws ws' : List Cond} {rm : Room} {As : List Value} {post : UInt64 → St → Prop} {px : String → St → Prop} (hM : vx_Met l y ws rm (va_Pc (.ref (ga g b0) :: As) (World g σ)) (QD g post) (XT g px) mc ms (gA g)) (hG : GoodIn Ts (wsV own idx C y ws)) (hw : ws = Cond.code y bytes maxL ret :: ws') (hrc : rm.cells = mc) (hrs : rm.slots = ms) (hd : y.cls = C ∧ y.cls ≠ "java/lang/invoke/MethodHandle" ∧ y.cls ≠ "java/lang/invoke/VarHandle" ∧ (parseMethodDescriptor y.desc).map (fun d => d.parameters.length) = some na) (hR : rm.frames + 1 ≤ R.frames ∧ 8 + (maxL + 11) + rm.locals ≤ R.locals) (hna : As.length = na) (hst : st = As.reverse ++ .ref (ga g b0) :: rest) (hsum : (rest.map fun v => v.category).sum ≤ 8) (hf : k + mc ≤ R.cells ∧ n + ms ≤ R.slots) (d : decode cc pc = .ok (.invokevirtual idx, 3)) (kx : ∀ (E : String) (u : St), px E u → VX g p l e R s m args below meth c nL (k + mc) (n + ms) Q u E pc lv rest) (kk : ∀ (z : UInt64) (u : St), post z u → V g p l e R s m args below meth c nL (k + mc) (n + ms) Q u (pc + 3) lv (.double z :: rest)) : V g p l e R s m args below meth c nL k n Q σ pc lv st := by
  obtain ⟨⟨hx, hb, hml, hown, hts⟩, hwk, hg, hl9, hlk⟩ := X
  intro H locs ls hP hS hl
  have he : (cells g σ)[b0]? = some (ga g b0, .inr (ci, flds g (σ.1 b0) ci b0)) := by rw [cells_at hb0, cL_obj hkd h8]
  have hrun := vx_runV (p := p) (l := l) (e := e) (R := R) (s := s) (m := m) (args := args) (below := below) (meth := meth) (c := c) (H := H) (locs := locs) (cells := k) (slots := n) (g := F0 m pc ls st) (rest := rest) (As := As) ⟨hx, hb, hml, hown, hts⟩ hM (cwV na hts hG hw hrc hrs hd hR) ⟨World.blind, va_recv hwk.1 hP (q0 := b0) hc he, fun U hU hW => ⟨rfl, World.call hwk hg hP hS hU hW⟩⟩ rfl hna hl.1 hst (lv_room hsum) d hf
  refine vx_calld hrun hS (fun q _ h => h) (fun q h => h) (fun q _ h => h) (fun E ce q9 u t H1 locs1 ht hvm hp hB hz hk1 hS1 h1 h2 h3 => ?_) (fun r u t H1 locs1 ht hvm hw hB hz hk1 hS1 => ?_)
  · obtain ⟨E1, u⟩ := u
    obtain ⟨rfl, hB⟩ := hB
    exact kx E u hp H1 locs1 ls q9 ce (by rw [← ht]; exact hB) hS1 hl h1 h2 h3
  · have hp := hw
    exact kk r u hp H1 locs1 ls (by rw [← ht]; exact hB) hS1 hl

theorem V_callS_D (X : Cx g p l R s m args meth c cc nL own Ts) {y : MethodName} {idx maxL mc ms na : Nat} {bytes : ByteArray} {ret : Option FieldType} {ws ws' : List Cond} {rm : Room} {As : List Value} {post : UInt64 → St → Prop} (hM : Met l y ws rm (va_Pc (As) (World g σ)) (QD g post) mc ms (gA g)) (hG : GoodIn Ts (va_wsS own idx y ws)) (hw : ws = Cond.code y bytes maxL ret :: ws') (hrc : rm.cells = mc) (hrs : rm.slots = ms) (hd : y.cls ≠ "java/lang/invoke/MethodHandle" ∧ y.cls ≠ "java/lang/invoke/VarHandle" ∧ (parseMethodDescriptor y.desc).map (fun d => d.parameters.length) = some na) (hR : rm.frames + 1 ≤ R.frames ∧ 8 + (maxL + 11) + rm.locals ≤ R.locals) (hna : As.length = na) (hst : st = As.reverse ++ rest) (hsum : (rest.map fun v => v.category).sum ≤ 8) (hf : k + mc ≤ R.cells ∧ n + ms ≤ R.slots) (d : decode cc pc = .ok (.invokestatic idx, 3)) (kk : ∀ (z : UInt64) (u : St), post z u → V g p l e R s m args below meth c nL (k + mc) (n + ms) Q u (pc + 3) lv (.double z :: rest)) : V g p l e R s m args below meth c nL k n Q σ pc lv st := by
  obtain ⟨⟨hx, hb, hml, hown, hts⟩, hwk, hg, hl9, hlk⟩ := X
  intro H locs ls hP hS hl
  have hrun := va_runS (p := p) (l := l) (e := e) (R := R) (s := s) (m := m) (args := args) (below := below) (meth := meth) (c := c) (H := H) (locs := locs) (cells := k) (slots := n) (g := F0 m pc ls st) (rest := rest) (As := As) ⟨hx, hb, hml, hown, hts⟩ hM (va_cwS na hts hG hw hrc hrs hd hR) ⟨World.blind, fun U hU hW => ⟨rfl, World.call hwk hg hP hS hU hW⟩⟩ rfl hna hl.1 hst (lv_room hsum) d hf
  refine va_calld hrun hS (fun q _ h => h) (fun q h => h) (fun r u t H1 locs1 ht hvm hw hB hz hk1 hS1 => ?_)
  have hp := hw
  exact kk r u hp H1 locs1 ls (by rw [← ht]; exact hB) hS1 hl

theorem V_callS_Dx (X : Cx g p l R s m args meth c cc nL own Ts) {y : MethodName} {idx maxL mc ms na : Nat} {bytes : ByteArray} {ret : Option FieldType} {ws ws' : List Cond} {rm : Room} {As : List Value} {post : UInt64 → St → Prop} {px : String → St → Prop} (hM : vx_Met l y ws rm (va_Pc (As) (World g σ)) (QD g post) (XT g px) mc ms (gA g)) (hG : GoodIn Ts (va_wsS own idx y ws)) (hw : ws = Cond.code y bytes maxL ret :: ws') (hrc : rm.cells = mc) (hrs : rm.slots = ms) (hd : y.cls ≠ "java/lang/invoke/MethodHandle" ∧ y.cls ≠ "java/lang/invoke/VarHandle" ∧ (parseMethodDescriptor y.desc).map (fun d => d.parameters.length) = some na) (hR : rm.frames + 1 ≤ R.frames ∧ 8 + (maxL + 11) + rm.locals ≤ R.locals) (hna : As.length = na) (hst : st = As.reverse ++ rest) (hsum : (rest.map fun v => v.category).sum ≤ 8) (hf : k + mc ≤ R.cells ∧ n + ms ≤ R.slots) (d : decode cc pc = .ok (.invokestatic idx, 3)) (kx : ∀ (E : String) (u : St), px E u → VX g p l e R s m args below meth c nL (k + mc) (n + ms) Q u E pc lv rest) (kk : ∀ (z : UInt64) (u : St), post z u → V g p l e R s m args below meth c nL (k + mc) (n + ms) Q u (pc + 3) lv (.double z :: rest)) : V g p l e R s m args below meth c nL k n Q σ pc lv st := by
  obtain ⟨⟨hx, hb, hml, hown, hts⟩, hwk, hg, hl9, hlk⟩ := X
  intro H locs ls hP hS hl
  have hrun := vx_runS (p := p) (l := l) (e := e) (R := R) (s := s) (m := m) (args := args) (below := below) (meth := meth) (c := c) (H := H) (locs := locs) (cells := k) (slots := n) (g := F0 m pc ls st) (rest := rest) (As := As) ⟨hx, hb, hml, hown, hts⟩ hM (va_cwS na hts hG hw hrc hrs hd hR) ⟨World.blind, fun U hU hW => ⟨rfl, World.call hwk hg hP hS hU hW⟩⟩ rfl hna hl.1 hst (lv_room hsum) d hf
  refine vx_calld hrun hS (fun q _ h => h) (fun q h => h) (fun q _ h => h) (fun E ce q9 u t H1 locs1 ht hvm hp hB hz hk1 hS1 h1 h2 h3 => ?_) (fun r u t H1 locs1 ht hvm hw hB hz hk1 hS1 => ?_)
  · obtain ⟨E1, u⟩ := u
    obtain ⟨rfl, hB⟩ := hB
    exact kx E u hp H1 locs1 ls q9 ce (by rw [← ht]; exact hB) hS1 hl h1 h2 h3
  · have hp := hw
    exact kk r u hp H1 locs1 ls (by rw [← ht]; exact hB) hS1 hl

theorem V_callS_Dw (X : Cx g p l R s m args meth c cc nL own Ts) {hh : List (Nat × Nat × Nat × Nat)} {y : MethodName} {idx maxL mc ms na : Nat} {bytes : ByteArray} {ret : Option FieldType} {ws ws' : List Cond} {rm : Room} {As : List Value} {post : UInt64 → St → Prop} {px : String → St → Prop} (hM : vx_Met l y ws rm (va_Pc (As) (World g σ)) (QD g post) (XT g px) mc ms (gA g)) (hG : GoodIn Ts (va_wsS own idx y ws)) (hw : ws = Cond.codeWith y bytes maxL ret hh :: ws') (hrc : rm.cells = mc) (hrs : rm.slots = ms) (hd : y.cls ≠ "java/lang/invoke/MethodHandle" ∧ y.cls ≠ "java/lang/invoke/VarHandle" ∧ (parseMethodDescriptor y.desc).map (fun d => d.parameters.length) = some na) (hR : rm.frames + 1 ≤ R.frames ∧ 8 + (maxL + 11) + rm.locals ≤ R.locals) (hna : As.length = na) (hst : st = As.reverse ++ rest) (hsum : (rest.map fun v => v.category).sum ≤ 8) (hf : k + mc ≤ R.cells ∧ n + ms ≤ R.slots) (d : decode cc pc = .ok (.invokestatic idx, 3)) (kx : ∀ (E : String) (u : St), px E u → VX g p l e R s m args below meth c nL (k + mc) (n + ms) Q u E pc lv rest) (kk : ∀ (z : UInt64) (u : St), post z u → V g p l e R s m args below meth c nL (k + mc) (n + ms) Q u (pc + 3) lv (.double z :: rest)) : V g p l e R s m args below meth c nL k n Q σ pc lv st := by
  obtain ⟨⟨hx, hb, hml, hown, hts⟩, hwk, hg, hl9, hlk⟩ := X
  intro H locs ls hP hS hl
  have hrun := vx_runSX (p := p) (l := l) (e := e) (R := R) (s := s) (m := m) (args := args) (below := below) (meth := meth) (c := c) (H := H) (locs := locs) (cells := k) (slots := n) (g := F0 m pc ls st) (rest := rest) (As := As) ⟨hx, hb, hml, hown, hts⟩ hM (vx_cwSW na hts hG hw hrc hrs hd hR) ⟨World.blind, fun U hU hW => ⟨rfl, World.call hwk hg hP hS hU hW⟩⟩ rfl hna hl.1 hst (lv_room hsum) d hf
  refine vx_calld hrun hS (fun q _ h => h) (fun q h => h) (fun q _ h => h) (fun E ce q9 u t H1 locs1 ht hvm hp hB hz hk1 hS1 h1 h2 h3 => ?_) (fun r u t H1 locs1 ht hvm hw hB hz hk1 hS1 => ?_)
  · obtain ⟨E1, u⟩ := u
    obtain ⟨rfl, hB⟩ := hB
    exact kx E u hp H1 locs1 ls q9 ce (by rw [← ht]; exact hB) hS1 hl h1 h2 h3
  · have hp := hw
    exact kk r u hp H1 locs1 ls (by rw [← ht]; exact hB) hS1 hl

theorem V_callV_V (X : Cx g p l R s m args meth c cc nL own Ts) {ci N : Nat} {T : u_T} {C : String} (b0 : Nat) (hb0 : b0 < 112) (hkd : kd b0 = ci) (h8 : ci < 8) (hc : vwCl[ci]? = some (C, T, N)) {y : MethodName} {idx maxL mc ms na : Nat} {bytes : ByteArray} {ret : Option FieldType} {ws ws' : List Cond} {rm : Room} {As : List Value} {post : St → Prop} (hM : Met l y ws rm (va_Pc (.ref (ga g b0) :: As) (World g σ)) (QV g post) mc ms (gA g)) (hG : GoodIn Ts (wsV own idx C y ws)) (hw : ws = Cond.code y bytes maxL ret :: ws') (hrc : rm.cells = mc) (hrs : rm.slots = ms) (hd : y.cls = C ∧ y.cls ≠ "java/lang/invoke/MethodHandle" ∧ y.cls ≠ "java/lang/invoke/VarHandle" ∧ (parseMethodDescriptor y.desc).map (fun d => d.parameters.length) = some na) (hR : rm.frames + 1 ≤ R.frames ∧ 8 + (maxL + 11) + rm.locals ≤ R.locals) (hna : As.length = na) (hst : st = As.reverse ++ .ref (ga g b0) :: rest) (hsum : (rest.map fun v => v.category).sum ≤ 8) (hf : k + mc ≤ R.cells ∧ n + ms ≤ R.slots) (d : decode cc pc = .ok (.invokevirtual idx, 3)) (kk : ∀ (u : St), post u → V g p l e R s m args below meth c nL (k + mc) (n + ms) Q u (pc + 3) lv (rest)) : V g p l e R s m args below meth c nL k n Q σ pc lv st := by
  obtain ⟨⟨hx, hb, hml, hown, hts⟩, hwk, hg, hl9, hlk⟩ := X
  intro H locs ls hP hS hl
  have he : (cells g σ)[b0]? = some (ga g b0, .inr (ci, flds g (σ.1 b0) ci b0)) := by rw [cells_at hb0, cL_obj hkd h8]
  have hrun := va_runV (p := p) (l := l) (e := e) (R := R) (s := s) (m := m) (args := args) (below := below) (meth := meth) (c := c) (H := H) (locs := locs) (cells := k) (slots := n) (g := F0 m pc ls st) (rest := rest) (As := As) ⟨hx, hb, hml, hown, hts⟩ hM (cwV na hts hG hw hrc hrs hd hR) ⟨World.blind, va_recv hwk.1 hP (q0 := b0) hc he, fun U hU hW => ⟨rfl, World.call hwk hg hP hS hU hW⟩⟩ rfl hna hl.1 hst (lv_room hsum) d hf
  refine va_callv hrun hS (fun q _ h => h) (fun q h => h) (fun u t H1 locs1 ht hvm hw hB hz hk1 hS1 => ?_)
  have hp := hw
  exact kk u hp H1 locs1 ls (by rw [← ht]; exact hB) hS1 hl

theorem V_callV_Vx (X : Cx g p l R s m args meth c cc nL own Ts) {ci N : Nat} {T : u_T} {C : String} (b0 : Nat) (hb0 : b0 < 112) (hkd : kd b0 = ci) (h8 : ci < 8) (hc : vwCl[ci]? = some (C, T, N)) {y : MethodName} {idx maxL mc ms na : Nat} {bytes : ByteArray} {ret : Option FieldType} {ws ws' : List Cond} {rm : Room} {As : List Value} {post : St → Prop} {px : String → St → Prop} (hM : vx_Met l y ws rm (va_Pc (.ref (ga g b0) :: As) (World g σ)) (QV g post) (XT g px) mc ms (gA g)) (hG : GoodIn Ts (wsV own idx C y ws)) (hw : ws = Cond.code y bytes maxL ret :: ws') (hrc : rm.cells = mc) (hrs : rm.slots = ms) (hd : y.cls = C ∧ y.cls ≠ "java/lang/invoke/MethodHandle" ∧ y.cls ≠ "java/lang/invoke/VarHandle" ∧ (parseMethodDescriptor y.desc).map (fun d => d.parameters.length) = some na) (hR : rm.frames + 1 ≤ R.frames ∧ 8 + (maxL + 11) + rm.locals ≤ R.locals) (hna : As.length = na) (hst : st = As.reverse ++ .ref (ga g b0) :: rest) (hsum : (rest.map fun v => v.category).sum ≤ 8) (hf : k + mc ≤ R.cells ∧ n + ms ≤ R.slots) (d : decode cc pc = .ok (.invokevirtual idx, 3)) (kx : ∀ (E : String) (u : St), px E u → VX g p l e R s m args below meth c nL (k + mc) (n + ms) Q u E pc lv rest) (kk : ∀ (u : St), post u → V g p l e R s m args below meth c nL (k + mc) (n + ms) Q u (pc + 3) lv (rest)) : V g p l e R s m args below meth c nL k n Q σ pc lv st := by
  obtain ⟨⟨hx, hb, hml, hown, hts⟩, hwk, hg, hl9, hlk⟩ := X
  intro H locs ls hP hS hl
  have he : (cells g σ)[b0]? = some (ga g b0, .inr (ci, flds g (σ.1 b0) ci b0)) := by rw [cells_at hb0, cL_obj hkd h8]
  have hrun := vx_runV (p := p) (l := l) (e := e) (R := R) (s := s) (m := m) (args := args) (below := below) (meth := meth) (c := c) (H := H) (locs := locs) (cells := k) (slots := n) (g := F0 m pc ls st) (rest := rest) (As := As) ⟨hx, hb, hml, hown, hts⟩ hM (cwV na hts hG hw hrc hrs hd hR) ⟨World.blind, va_recv hwk.1 hP (q0 := b0) hc he, fun U hU hW => ⟨rfl, World.call hwk hg hP hS hU hW⟩⟩ rfl hna hl.1 hst (lv_room hsum) d hf
  refine vx_callv hrun hS (fun q _ h => h) (fun q h => h) (fun q _ h => h) (fun E ce q9 u t H1 locs1 ht hvm hp hB hz hk1 hS1 h1 h2 h3 => ?_) (fun u t H1 locs1 ht hvm hw hB hz hk1 hS1 => ?_)
  · obtain ⟨E1, u⟩ := u
    obtain ⟨rfl, hB⟩ := hB
    exact kx E u hp H1 locs1 ls q9 ce (by rw [← ht]; exact hB) hS1 hl h1 h2 h3
  · have hp := hw
    exact kk u hp H1 locs1 ls (by rw [← ht]; exact hB) hS1 hl

theorem V_callS_V (X : Cx g p l R s m args meth c cc nL own Ts) {y : MethodName} {idx maxL mc ms na : Nat} {bytes : ByteArray} {ret : Option FieldType} {ws ws' : List Cond} {rm : Room} {As : List Value} {post : St → Prop} (hM : Met l y ws rm (va_Pc (As) (World g σ)) (QV g post) mc ms (gA g)) (hG : GoodIn Ts (va_wsS own idx y ws)) (hw : ws = Cond.code y bytes maxL ret :: ws') (hrc : rm.cells = mc) (hrs : rm.slots = ms) (hd : y.cls ≠ "java/lang/invoke/MethodHandle" ∧ y.cls ≠ "java/lang/invoke/VarHandle" ∧ (parseMethodDescriptor y.desc).map (fun d => d.parameters.length) = some na) (hR : rm.frames + 1 ≤ R.frames ∧ 8 + (maxL + 11) + rm.locals ≤ R.locals) (hna : As.length = na) (hst : st = As.reverse ++ rest) (hsum : (rest.map fun v => v.category).sum ≤ 8) (hf : k + mc ≤ R.cells ∧ n + ms ≤ R.slots) (d : decode cc pc = .ok (.invokestatic idx, 3)) (kk : ∀ (u : St), post u → V g p l e R s m args below meth c nL (k + mc) (n + ms) Q u (pc + 3) lv (rest)) : V g p l e R s m args below meth c nL k n Q σ pc lv st := by
  obtain ⟨⟨hx, hb, hml, hown, hts⟩, hwk, hg, hl9, hlk⟩ := X
  intro H locs ls hP hS hl
  have hrun := va_runS (p := p) (l := l) (e := e) (R := R) (s := s) (m := m) (args := args) (below := below) (meth := meth) (c := c) (H := H) (locs := locs) (cells := k) (slots := n) (g := F0 m pc ls st) (rest := rest) (As := As) ⟨hx, hb, hml, hown, hts⟩ hM (va_cwS na hts hG hw hrc hrs hd hR) ⟨World.blind, fun U hU hW => ⟨rfl, World.call hwk hg hP hS hU hW⟩⟩ rfl hna hl.1 hst (lv_room hsum) d hf
  refine va_callv hrun hS (fun q _ h => h) (fun q h => h) (fun u t H1 locs1 ht hvm hw hB hz hk1 hS1 => ?_)
  have hp := hw
  exact kk u hp H1 locs1 ls (by rw [← ht]; exact hB) hS1 hl

theorem V_callS_Vx (X : Cx g p l R s m args meth c cc nL own Ts) {y : MethodName} {idx maxL mc ms na : Nat} {bytes : ByteArray} {ret : Option FieldType} {ws ws' : List Cond} {rm : Room} {As : List Value} {post : St → Prop} {px : String → St → Prop} (hM : vx_Met l y ws rm (va_Pc (As) (World g σ)) (QV g post) (XT g px) mc ms (gA g)) (hG : GoodIn Ts (va_wsS own idx y ws)) (hw : ws = Cond.code y bytes maxL ret :: ws') (hrc : rm.cells = mc) (hrs : rm.slots = ms) (hd : y.cls ≠ "java/lang/invoke/MethodHandle" ∧ y.cls ≠ "java/lang/invoke/VarHandle" ∧ (parseMethodDescriptor y.desc).map (fun d => d.parameters.length) = some na) (hR : rm.frames + 1 ≤ R.frames ∧ 8 + (maxL + 11) + rm.locals ≤ R.locals) (hna : As.length = na) (hst : st = As.reverse ++ rest) (hsum : (rest.map fun v => v.category).sum ≤ 8) (hf : k + mc ≤ R.cells ∧ n + ms ≤ R.slots) (d : decode cc pc = .ok (.invokestatic idx, 3)) (kx : ∀ (E : String) (u : St), px E u → VX g p l e R s m args below meth c nL (k + mc) (n + ms) Q u E pc lv rest) (kk : ∀ (u : St), post u → V g p l e R s m args below meth c nL (k + mc) (n + ms) Q u (pc + 3) lv (rest)) : V g p l e R s m args below meth c nL k n Q σ pc lv st := by
  obtain ⟨⟨hx, hb, hml, hown, hts⟩, hwk, hg, hl9, hlk⟩ := X
  intro H locs ls hP hS hl
  have hrun := vx_runS (p := p) (l := l) (e := e) (R := R) (s := s) (m := m) (args := args) (below := below) (meth := meth) (c := c) (H := H) (locs := locs) (cells := k) (slots := n) (g := F0 m pc ls st) (rest := rest) (As := As) ⟨hx, hb, hml, hown, hts⟩ hM (va_cwS na hts hG hw hrc hrs hd hR) ⟨World.blind, fun U hU hW => ⟨rfl, World.call hwk hg hP hS hU hW⟩⟩ rfl hna hl.1 hst (lv_room hsum) d hf
  refine vx_callv hrun hS (fun q _ h => h) (fun q h => h) (fun q _ h => h) (fun E ce q9 u t H1 locs1 ht hvm hp hB hz hk1 hS1 h1 h2 h3 => ?_) (fun u t H1 locs1 ht hvm hw hB hz hk1 hS1 => ?_)
  · obtain ⟨E1, u⟩ := u
    obtain ⟨rfl, hB⟩ := hB
    exact kx E u hp H1 locs1 ls q9 ce (by rw [← ht]; exact hB) hS1 hl h1 h2 h3
  · have hp := hw
    exact kk u hp H1 locs1 ls (by rw [← ht]; exact hB) hS1 hl

theorem V_callS_Vw (X : Cx g p l R s m args meth c cc nL own Ts) {hh : List (Nat × Nat × Nat × Nat)} {y : MethodName} {idx maxL mc ms na : Nat} {bytes : ByteArray} {ret : Option FieldType} {ws ws' : List Cond} {rm : Room} {As : List Value} {post : St → Prop} {px : String → St → Prop} (hM : vx_Met l y ws rm (va_Pc (As) (World g σ)) (QV g post) (XT g px) mc ms (gA g)) (hG : GoodIn Ts (va_wsS own idx y ws)) (hw : ws = Cond.codeWith y bytes maxL ret hh :: ws') (hrc : rm.cells = mc) (hrs : rm.slots = ms) (hd : y.cls ≠ "java/lang/invoke/MethodHandle" ∧ y.cls ≠ "java/lang/invoke/VarHandle" ∧ (parseMethodDescriptor y.desc).map (fun d => d.parameters.length) = some na) (hR : rm.frames + 1 ≤ R.frames ∧ 8 + (maxL + 11) + rm.locals ≤ R.locals) (hna : As.length = na) (hst : st = As.reverse ++ rest) (hsum : (rest.map fun v => v.category).sum ≤ 8) (hf : k + mc ≤ R.cells ∧ n + ms ≤ R.slots) (d : decode cc pc = .ok (.invokestatic idx, 3)) (kx : ∀ (E : String) (u : St), px E u → VX g p l e R s m args below meth c nL (k + mc) (n + ms) Q u E pc lv rest) (kk : ∀ (u : St), post u → V g p l e R s m args below meth c nL (k + mc) (n + ms) Q u (pc + 3) lv (rest)) : V g p l e R s m args below meth c nL k n Q σ pc lv st := by
  obtain ⟨⟨hx, hb, hml, hown, hts⟩, hwk, hg, hl9, hlk⟩ := X
  intro H locs ls hP hS hl
  have hrun := vx_runSX (p := p) (l := l) (e := e) (R := R) (s := s) (m := m) (args := args) (below := below) (meth := meth) (c := c) (H := H) (locs := locs) (cells := k) (slots := n) (g := F0 m pc ls st) (rest := rest) (As := As) ⟨hx, hb, hml, hown, hts⟩ hM (vx_cwSW na hts hG hw hrc hrs hd hR) ⟨World.blind, fun U hU hW => ⟨rfl, World.call hwk hg hP hS hU hW⟩⟩ rfl hna hl.1 hst (lv_room hsum) d hf
  refine vx_callv hrun hS (fun q _ h => h) (fun q h => h) (fun q _ h => h) (fun E ce q9 u t H1 locs1 ht hvm hp hB hz hk1 hS1 h1 h2 h3 => ?_) (fun u t H1 locs1 ht hvm hw hB hz hk1 hS1 => ?_)
  · obtain ⟨E1, u⟩ := u
    obtain ⟨rfl, hB⟩ := hB
    exact kx E u hp H1 locs1 ls q9 ce (by rw [← ht]; exact hB) hS1 hl h1 h2 h3
  · have hp := hw
    exact kk u hp H1 locs1 ls (by rw [← ht]; exact hB) hS1 hl

theorem V_callV_R (X : Cx g p l R s m args meth c cc nL own Ts) {ci N : Nat} {T : u_T} {C : String} (b0 : Nat) (hb0 : b0 < 112) (hkd : kd b0 = ci) (h8 : ci < 8) (hc : vwCl[ci]? = some (C, T, N)) {y : MethodName} {idx maxL mc ms na : Nat} {bytes : ByteArray} {ret : Option FieldType} {ws ws' : List Cond} {rm : Room} {As : List Value} {post : Nat → St → Prop} (hM : Met l y ws rm (va_Pc (.ref (ga g b0) :: As) (World g σ)) (QR g post) mc ms (gA g)) (hG : GoodIn Ts (wsV own idx C y ws)) (hw : ws = Cond.code y bytes maxL ret :: ws') (hrc : rm.cells = mc) (hrs : rm.slots = ms) (hd : y.cls = C ∧ y.cls ≠ "java/lang/invoke/MethodHandle" ∧ y.cls ≠ "java/lang/invoke/VarHandle" ∧ (parseMethodDescriptor y.desc).map (fun d => d.parameters.length) = some na) (hR : rm.frames + 1 ≤ R.frames ∧ 8 + (maxL + 11) + rm.locals ≤ R.locals) (hna : As.length = na) (hst : st = As.reverse ++ .ref (ga g b0) :: rest) (hsum : (rest.map fun v => v.category).sum ≤ 8) (hf : k + mc ≤ R.cells ∧ n + ms ≤ R.slots) (d : decode cc pc = .ok (.invokevirtual idx, 3)) (kk : ∀ (b : Nat) (u : St), post b u → V g p l e R s m args below meth c nL (k + mc) (n + ms) Q u (pc + 3) lv (.ref (ga g b) :: rest)) : V g p l e R s m args below meth c nL k n Q σ pc lv st := by
  obtain ⟨⟨hx, hb, hml, hown, hts⟩, hwk, hg, hl9, hlk⟩ := X
  intro H locs ls hP hS hl
  have he : (cells g σ)[b0]? = some (ga g b0, .inr (ci, flds g (σ.1 b0) ci b0)) := by rw [cells_at hb0, cL_obj hkd h8]
  have hrun := va_runV (p := p) (l := l) (e := e) (R := R) (s := s) (m := m) (args := args) (below := below) (meth := meth) (c := c) (H := H) (locs := locs) (cells := k) (slots := n) (g := F0 m pc ls st) (rest := rest) (As := As) ⟨hx, hb, hml, hown, hts⟩ hM (cwV na hts hG hw hrc hrs hd hR) ⟨World.blind, va_recv hwk.1 hP (q0 := b0) hc he, fun U hU hW => ⟨rfl, World.call hwk hg hP hS hU hW⟩⟩ rfl hna hl.1 hst (lv_room hsum) d hf
  refine va_callq hrun hS (fun q _ h => h) (fun q h => h) (fun r u0 t H1 locs1 ht hvm hw hB hz hk1 hS1 => ?_)
  obtain ⟨u, b⟩ := u0
  obtain ⟨rfl, hp⟩ := hw
  exact kk b u hp H1 locs1 ls (by rw [← ht]; exact hB) hS1 hl

theorem V_callV_Rx (X : Cx g p l R s m args meth c cc nL own Ts) {ci N : Nat} {T : u_T} {C : String} (b0 : Nat) (hb0 : b0 < 112) (hkd : kd b0 = ci) (h8 : ci < 8) (hc : vwCl[ci]? = some (C, T, N)) {y : MethodName} {idx maxL mc ms na : Nat} {bytes : ByteArray} {ret : Option FieldType} {ws ws' : List Cond} {rm : Room} {As : List Value} {post : Nat → St → Prop} {px : String → St → Prop} (hM : vx_Met l y ws rm (va_Pc (.ref (ga g b0) :: As) (World g σ)) (QR g post) (XT g px) mc ms (gA g)) (hG : GoodIn Ts (wsV own idx C y ws)) (hw : ws = Cond.code y bytes maxL ret :: ws') (hrc : rm.cells = mc) (hrs : rm.slots = ms) (hd : y.cls = C ∧ y.cls ≠ "java/lang/invoke/MethodHandle" ∧ y.cls ≠ "java/lang/invoke/VarHandle" ∧ (parseMethodDescriptor y.desc).map (fun d => d.parameters.length) = some na) (hR : rm.frames + 1 ≤ R.frames ∧ 8 + (maxL + 11) + rm.locals ≤ R.locals) (hna : As.length = na) (hst : st = As.reverse ++ .ref (ga g b0) :: rest) (hsum : (rest.map fun v => v.category).sum ≤ 8) (hf : k + mc ≤ R.cells ∧ n + ms ≤ R.slots) (d : decode cc pc = .ok (.invokevirtual idx, 3)) (kx : ∀ (E : String) (u : St), px E u → VX g p l e R s m args below meth c nL (k + mc) (n + ms) Q u E pc lv rest) (kk : ∀ (b : Nat) (u : St), post b u → V g p l e R s m args below meth c nL (k + mc) (n + ms) Q u (pc + 3) lv (.ref (ga g b) :: rest)) : V g p l e R s m args below meth c nL k n Q σ pc lv st := by
  obtain ⟨⟨hx, hb, hml, hown, hts⟩, hwk, hg, hl9, hlk⟩ := X
  intro H locs ls hP hS hl
  have he : (cells g σ)[b0]? = some (ga g b0, .inr (ci, flds g (σ.1 b0) ci b0)) := by rw [cells_at hb0, cL_obj hkd h8]
  have hrun := vx_runV (p := p) (l := l) (e := e) (R := R) (s := s) (m := m) (args := args) (below := below) (meth := meth) (c := c) (H := H) (locs := locs) (cells := k) (slots := n) (g := F0 m pc ls st) (rest := rest) (As := As) ⟨hx, hb, hml, hown, hts⟩ hM (cwV na hts hG hw hrc hrs hd hR) ⟨World.blind, va_recv hwk.1 hP (q0 := b0) hc he, fun U hU hW => ⟨rfl, World.call hwk hg hP hS hU hW⟩⟩ rfl hna hl.1 hst (lv_room hsum) d hf
  refine vx_callq hrun hS (fun q _ h => h) (fun q h => h) (fun q _ h => h) (fun E ce q9 u t H1 locs1 ht hvm hp hB hz hk1 hS1 h1 h2 h3 => ?_) (fun r u0 t H1 locs1 ht hvm hw hB hz hk1 hS1 => ?_)
  · obtain ⟨E1, u⟩ := u
    obtain ⟨rfl, hB⟩ := hB
    exact kx E u hp H1 locs1 ls q9 ce (by rw [← ht]; exact hB) hS1 hl h1 h2 h3
  · obtain ⟨u, b⟩ := u0
    obtain ⟨rfl, hp⟩ := hw
    exact kk b u hp H1 locs1 ls (by rw [← ht]; exact hB) hS1 hl

theorem V_callS_R (X : Cx g p l R s m args meth c cc nL own Ts) {y : MethodName} {idx maxL mc ms na : Nat} {bytes : ByteArray} {ret : Option FieldType} {ws ws' : List Cond} {rm : Room} {As : List Value} {post : Nat → St → Prop} (hM : Met l y ws rm (va_Pc (As) (World g σ)) (QR g post) mc ms (gA g)) (hG : GoodIn Ts (va_wsS own idx y ws)) (hw : ws = Cond.code y bytes maxL ret :: ws') (hrc : rm.cells = mc) (hrs : rm.slots = ms) (hd : y.cls ≠ "java/lang/invoke/MethodHandle" ∧ y.cls ≠ "java/lang/invoke/VarHandle" ∧ (parseMethodDescriptor y.desc).map (fun d => d.parameters.length) = some na) (hR : rm.frames + 1 ≤ R.frames ∧ 8 + (maxL + 11) + rm.locals ≤ R.locals) (hna : As.length = na) (hst : st = As.reverse ++ rest) (hsum : (rest.map fun v => v.category).sum ≤ 8) (hf : k + mc ≤ R.cells ∧ n + ms ≤ R.slots) (d : decode cc pc = .ok (.invokestatic idx, 3)) (kk : ∀ (b : Nat) (u : St), post b u → V g p l e R s m args below meth c nL (k + mc) (n + ms) Q u (pc + 3) lv (.ref (ga g b) :: rest)) : V g p l e R s m args below meth c nL k n Q σ pc lv st := by
  obtain ⟨⟨hx, hb, hml, hown, hts⟩, hwk, hg, hl9, hlk⟩ := X
  intro H locs ls hP hS hl
  have hrun := va_runS (p := p) (l := l) (e := e) (R := R) (s := s) (m := m) (args := args) (below := below) (meth := meth) (c := c) (H := H) (locs := locs) (cells := k) (slots := n) (g := F0 m pc ls st) (rest := rest) (As := As) ⟨hx, hb, hml, hown, hts⟩ hM (va_cwS na hts hG hw hrc hrs hd hR) ⟨World.blind, fun U hU hW => ⟨rfl, World.call hwk hg hP hS hU hW⟩⟩ rfl hna hl.1 hst (lv_room hsum) d hf
  refine va_callq hrun hS (fun q _ h => h) (fun q h => h) (fun r u0 t H1 locs1 ht hvm hw hB hz hk1 hS1 => ?_)
  obtain ⟨u, b⟩ := u0
  obtain ⟨rfl, hp⟩ := hw
  exact kk b u hp H1 locs1 ls (by rw [← ht]; exact hB) hS1 hl

theorem V_callS_Rx (X : Cx g p l R s m args meth c cc nL own Ts) {y : MethodName} {idx maxL mc ms na : Nat} {bytes : ByteArray} {ret : Option FieldType} {ws ws' : List Cond} {rm : Room} {As : List Value} {post : Nat → St → Prop} {px : String → St → Prop} (hM : vx_Met l y ws rm (va_Pc (As) (World g σ)) (QR g post) (XT g px) mc ms (gA g)) (hG : GoodIn Ts (va_wsS own idx y ws)) (hw : ws = Cond.code y bytes maxL ret :: ws') (hrc : rm.cells = mc) (hrs : rm.slots = ms) (hd : y.cls ≠ "java/lang/invoke/MethodHandle" ∧ y.cls ≠ "java/lang/invoke/VarHandle" ∧ (parseMethodDescriptor y.desc).map (fun d => d.parameters.length) = some na) (hR : rm.frames + 1 ≤ R.frames ∧ 8 + (maxL + 11) + rm.locals ≤ R.locals) (hna : As.length = na) (hst : st = As.reverse ++ rest) (hsum : (rest.map fun v => v.category).sum ≤ 8) (hf : k + mc ≤ R.cells ∧ n + ms ≤ R.slots) (d : decode cc pc = .ok (.invokestatic idx, 3)) (kx : ∀ (E : String) (u : St), px E u → VX g p l e R s m args below meth c nL (k + mc) (n + ms) Q u E pc lv rest) (kk : ∀ (b : Nat) (u : St), post b u → V g p l e R s m args below meth c nL (k + mc) (n + ms) Q u (pc + 3) lv (.ref (ga g b) :: rest)) : V g p l e R s m args below meth c nL k n Q σ pc lv st := by
  obtain ⟨⟨hx, hb, hml, hown, hts⟩, hwk, hg, hl9, hlk⟩ := X
  intro H locs ls hP hS hl
  have hrun := vx_runS (p := p) (l := l) (e := e) (R := R) (s := s) (m := m) (args := args) (below := below) (meth := meth) (c := c) (H := H) (locs := locs) (cells := k) (slots := n) (g := F0 m pc ls st) (rest := rest) (As := As) ⟨hx, hb, hml, hown, hts⟩ hM (va_cwS na hts hG hw hrc hrs hd hR) ⟨World.blind, fun U hU hW => ⟨rfl, World.call hwk hg hP hS hU hW⟩⟩ rfl hna hl.1 hst (lv_room hsum) d hf
  refine vx_callq hrun hS (fun q _ h => h) (fun q h => h) (fun q _ h => h) (fun E ce q9 u t H1 locs1 ht hvm hp hB hz hk1 hS1 h1 h2 h3 => ?_) (fun r u0 t H1 locs1 ht hvm hw hB hz hk1 hS1 => ?_)
  · obtain ⟨E1, u⟩ := u
    obtain ⟨rfl, hB⟩ := hB
    exact kx E u hp H1 locs1 ls q9 ce (by rw [← ht]; exact hB) hS1 hl h1 h2 h3
  · obtain ⟨u, b⟩ := u0
    obtain ⟨rfl, hp⟩ := hw
    exact kk b u hp H1 locs1 ls (by rw [← ht]; exact hB) hS1 hl

theorem V_callS_Rw (X : Cx g p l R s m args meth c cc nL own Ts) {hh : List (Nat × Nat × Nat × Nat)} {y : MethodName} {idx maxL mc ms na : Nat} {bytes : ByteArray} {ret : Option FieldType} {ws ws' : List Cond} {rm : Room} {As : List Value} {post : Nat → St → Prop} {px : String → St → Prop} (hM : vx_Met l y ws rm (va_Pc (As) (World g σ)) (QR g post) (XT g px) mc ms (gA g)) (hG : GoodIn Ts (va_wsS own idx y ws)) (hw : ws = Cond.codeWith y bytes maxL ret hh :: ws') (hrc : rm.cells = mc) (hrs : rm.slots = ms) (hd : y.cls ≠ "java/lang/invoke/MethodHandle" ∧ y.cls ≠ "java/lang/invoke/VarHandle" ∧ (parseMethodDescriptor y.desc).map (fun d => d.parameters.length) = some na) (hR : rm.frames + 1 ≤ R.frames ∧ 8 + (maxL + 11) + rm.locals ≤ R.locals) (hna : As.length = na) (hst : st = As.reverse ++ rest) (hsum : (rest.map fun v => v.category).sum ≤ 8) (hf : k + mc ≤ R.cells ∧ n + ms ≤ R.slots) (d : decode cc pc = .ok (.invokestatic idx, 3)) (kx : ∀ (E : String) (u : St), px E u → VX g p l e R s m args below meth c nL (k + mc) (n + ms) Q u E pc lv rest) (kk : ∀ (b : Nat) (u : St), post b u → V g p l e R s m args below meth c nL (k + mc) (n + ms) Q u (pc + 3) lv (.ref (ga g b) :: rest)) : V g p l e R s m args below meth c nL k n Q σ pc lv st := by
  obtain ⟨⟨hx, hb, hml, hown, hts⟩, hwk, hg, hl9, hlk⟩ := X
  intro H locs ls hP hS hl
  have hrun := vx_runSX (p := p) (l := l) (e := e) (R := R) (s := s) (m := m) (args := args) (below := below) (meth := meth) (c := c) (H := H) (locs := locs) (cells := k) (slots := n) (g := F0 m pc ls st) (rest := rest) (As := As) ⟨hx, hb, hml, hown, hts⟩ hM (vx_cwSW na hts hG hw hrc hrs hd hR) ⟨World.blind, fun U hU hW => ⟨rfl, World.call hwk hg hP hS hU hW⟩⟩ rfl hna hl.1 hst (lv_room hsum) d hf
  refine vx_callq hrun hS (fun q _ h => h) (fun q h => h) (fun q _ h => h) (fun E ce q9 u t H1 locs1 ht hvm hp hB hz hk1 hS1 h1 h2 h3 => ?_) (fun r u0 t H1 locs1 ht hvm hw hB hz hk1 hS1 => ?_)
  · obtain ⟨E1, u⟩ := u
    obtain ⟨rfl, hB⟩ := hB
    exact kx E u hp H1 locs1 ls q9 ce (by rw [← ht]; exact hB) hS1 hl h1 h2 h3
  · obtain ⟨u, b⟩ := u0
    obtain ⟨rfl, hp⟩ := hw
    exact kk b u hp H1 locs1 ls (by rw [← ht]; exact hB) hS1 hl


/-- an exception leaves the method -/
theorem VX_out {E : String} {px : String → St → Prop} {Qc : Array Value → State → Outcome → State → Prop} {mc ms : Nat} (X : Cx g p l R s m args meth c cc nL own Ts) (hno : ∀ x ∈ c.exceptionTable.toList, False) (hp : px E σ) (hk : k ≤ mc) (hn : n ≤ ms) : VX g p l e R s m args below meth c nL k n (vx_MQ below Qc (XT g px) args s mc ms (gA g)) σ E pc lv st := by
  obtain ⟨⟨hx, hb, hml, hown, hts⟩, hwk, hg, hl9, hlk⟩ := X
  intro H locs ls q ce hP hS hl h1 h2 h3
  exact vx_out (fun x hx => (hno x hx).elim) hlk h1 h2 h3 (fun t ht hvm => ⟨(E, σ), hp, ⟨rfl, by unfold Bw; rw [ht]; exact hP⟩, hS.F ht⟩) hS.2.2 hk hn
/-- throw new X("text") -/
theorem V_throw {cls text : String} {ik is ic mc ms : Nat} {px : String → St → Prop} {Qc : Array Value → State → Outcome → State → Prop} (X : Cx g p l R s m args meth c cc nL own Ts) (hno : ∀ x ∈ c.exceptionTable.toList, False) (hown2 : own = "Ghostracer") (htx : (is, text) ∈ texts) (hcls : Bundle.fit cls = true)
    (hk : Cond.classLink own ik cls ∈ Ts) (hini : Cond.initialized cls ∈ Ts) (hat : ∀ w ∈ vx_atS own ic cls ["java/lang/RuntimeException", "java/lang/Exception"], goodWord w = true → w ∈ Ts) (hbad : ∀ w ∈ vx_atS own ic cls ["java/lang/RuntimeException", "java/lang/Exception"], goodWord w = true ∨ w = .castable cls cls ∨ w ∈ dcls.map .declares) (hE : cls ∈ excs)
    (hgood : ∀ w ∈ Cond.classLink own ik cls :: Cond.initialized cls :: vx_atS own ic cls ["java/lang/RuntimeException", "java/lang/Exception"], vx_ot w = true)
    (d0 : decode cc pc = .ok (.new ik, 3)) (d3 : decode cc (pc + 3) = .ok (.dup, 1)) (d4 : decode cc (pc + 4) = .ok (.ldc is, 2)) (d6 : decode cc (pc + 6) = .ok (.invokespecial ic, 3)) (d9 : decode cc (pc + 9) = .ok (.athrow, 1))
    (hRf : 5 < R.frames) (hRl : (st.map fun v => v.category).sum + 82 ≤ R.locals) (hRc : k + 1 ≤ R.cells) (hRs : n + 6 ≤ R.slots) (hc1 : k + 1 ≤ mc) (hs1 : n + 6 ≤ ms) (hp : px cls σ) : V g p l e R s m args below meth c nL k n (vx_MQ below Qc (XT g px) args s mc ms (gA g)) σ pc lv st := by
  obtain ⟨⟨hx, hb, hml, hown, hts⟩, hwk, hg, hl9, hlk⟩ := X
  intro H locs ls hP hS hl
  subst hown2
  obtain ⟨sa, hsa⟩ := hwk.2.2.2.1 _ htx
  have hat2 : ∀ w ∈ vx_atS "Ghostracer" ic cls ["java/lang/RuntimeException", "java/lang/Exception"], w.before args s = true := fun w hw => by
    rcases hbad w hw with h | h | h
    · exact hts _ (hat w hw h)
    · rw [h]; exact va_Nw.use rfl (hwk.2.2.2.2.1 cls hE)
    · obtain ⟨x, hx1, rfl⟩ := List.mem_map.mp h
      exact va_Nw.use rfl (hwk.2.2.2.2.2.1 x hx1)
  refine vx_throwS (A := gA g) (text := text) (sa := sa) hx hb hl9 hown hcls (by decide) (hts _ hk) (hts _ hini) hsa hat2 hgood hwk.2.2.1.2.2.1 hwk.2.2.1.2.2.2 hS (hl.1.trans hml.symm) d0 d3 d4 d6 d9 (fun x hx => (hno x hx).elim) hRf hRl hRc hRs hlk (fun t hvm hz hq => ⟨(cls, σ), hp, ⟨rfl, ?_⟩, ?_⟩) hS.2.2 hc1 hs1
  · exact hP.kept (fun k q hk => hq q.1 (hP k q hk).lt)
  · exact ⟨Nat.le_trans hS.1 hz, fun q h1 h2 => (hq q (Nat.lt_of_lt_of_le h1 hS.1)).trans (hS.2.1 q h1 h2)⟩
theorem V_throwW {cls text : String} {ik is ic mc ms : Nat} {px : String → St → Prop} {Qc : Array Value → State → Outcome → State → Prop} (X : Cx g p l R s m args meth c cc nL own Ts) (hno : ∀ x ∈ c.exceptionTable.toList, False) (hown2 : own = "Ghostracer") (htx : (is, text) ∈ texts) (hcls : Bundle.fit cls = true)
    (hk : Cond.classLink own ik cls ∈ Ts) (hini : Cond.initialized cls ∈ Ts) (hat : ∀ w ∈ vx_atS own ic cls ["java/lang/RuntimeException", "java/lang/Exception"], goodWord w = true → w ∈ Ts) (hbad : ∀ w ∈ vx_atS own ic cls ["java/lang/RuntimeException", "java/lang/Exception"], goodWord w = true ∨ w = .castable cls cls ∨ w ∈ dcls.map .declares) (hE : cls ∈ excs)
    (hgood : ∀ w ∈ Cond.classLink own ik cls :: Cond.initialized cls :: vx_atS own ic cls ["java/lang/RuntimeException", "java/lang/Exception"], vx_ot w = true)
    (d0 : decode cc pc = .ok (.new ik, 3)) (d3 : decode cc (pc + 3) = .ok (.dup, 1)) (d4 : decode cc (pc + 4) = .ok (.ldc_w is, 3)) (d7 : decode cc (pc + 7) = .ok (.invokespecial ic, 3)) (d10 : decode cc (pc + 10) = .ok (.athrow, 1))
    (hRf : 5 < R.frames) (hRl : (st.map fun v => v.category).sum + 82 ≤ R.locals) (hRc : k + 1 ≤ R.cells) (hRs : n + 6 ≤ R.slots) (hc1 : k + 1 ≤ mc) (hs1 : n + 6 ≤ ms) (hp : px cls σ) : V g p l e R s m args below meth c nL k n (vx_MQ below Qc (XT g px) args s mc ms (gA g)) σ pc lv st := by
  obtain ⟨⟨hx, hb, hml, hown, hts⟩, hwk, hg, hl9, hlk⟩ := X
  intro H locs ls hP hS hl
  subst hown2
  obtain ⟨sa, hsa⟩ := hwk.2.2.2.1 _ htx
  have hat2 : ∀ w ∈ vx_atS "Ghostracer" ic cls ["java/lang/RuntimeException", "java/lang/Exception"], w.before args s = true := fun w hw => by
    rcases hbad w hw with h | h | h
    · exact hts _ (hat w hw h)
    · rw [h]; exact va_Nw.use rfl (hwk.2.2.2.2.1 cls hE)
    · obtain ⟨x, hx1, rfl⟩ := List.mem_map.mp h
      exact va_Nw.use rfl (hwk.2.2.2.2.2.1 x hx1)
  refine vx_throwSW (A := gA g) (text := text) (sa := sa) hx hb hl9 hown hcls (by decide) (hts _ hk) (hts _ hini) hsa hat2 hgood hwk.2.2.1.2.2.1 hwk.2.2.1.2.2.2 hS (hl.1.trans hml.symm) d0 d3 d4 d7 d10 (fun x hx => (hno x hx).elim) hRf hRl hRc hRs hlk (fun t hvm hz hq => ⟨(cls, σ), hp, ⟨rfl, ?_⟩, ?_⟩) hS.2.2 hc1 hs1
  · exact hP.kept (fun k q hk => hq q.1 (hP k q hk).lt)
  · exact ⟨Nat.le_trans hS.1 hz, fun q h1 h2 => (hq q (Nat.lt_of_lt_of_le h1 hS.1)).trans (hS.2.1 q h1 h2)⟩
/-- a handler catches -/
theorem VX_catch {E name : String} (X : Cx g p l R s m args meth c cc nL own Ts) (pre : List ExceptionTableEntry) (x : ExceptionTableEntry) (suf : List ExceptionTableEntry) (hsplit : c.exceptionTable.toList = pre ++ x :: suf)
    (hpass : ∀ z ∈ pre, covers z pc = false ∨ (z.catchType ≠ 0 ∧ ∃ nm : String, Cond.classLink own z.catchType nm ∈ Ts ∧ va_Nc E nm s)) (hx0 : covers x pc = true) (h0 : x.catchType ≠ 0)
    (hlink : Cond.classLink own x.catchType name ∈ Ts) (hcast : Cond.castable E name ∈ Ts)
    (kk : ∀ q : Nat, V g p l e R s m args below meth c nL k n Q σ x.handlerPc lv [.ref q]) : VX g p l e R s m args below meth c nL k n Q σ E pc lv st := by
  obtain ⟨⟨hx, hb, hml, hown, hts⟩, hwk, hg, hl9, hlk⟩ := X
  intro H locs ls q ce hP hS hl h1 h2 h3
  refine vx_catch hown pre x suf hsplit (fun z hz => ?_) hx0 h0 (hts _ hlink) (hts _ hcast) h1 h2 h3 (kk q H locs ls hP hS hl)
  rcases hpass z hz with h | ⟨h, nm, h4, h5⟩
  · exact Or.inl h
  · exact Or.inr ⟨h, nm, hts _ h4, h5⟩
end VC
end
section
/-! ===== plain words of the class ===== -/
/-- every number of the world is an int -/
def RG (σ : St) : Prop := ∀ a b, R32 (σ.1 a b)
theorem RG.sw {σ : St} (h : RG σ) (n k : Nat) {v : Int} (hv : R32 v) : RG (sw σ n k v) := by
  intro a b
  rw [sw_get]
  split
  · exact hv
  · exact h a b
def spdF (top pull s i : Int) : Int := if i = 43 then (if s + pull < top then s + pull else top) else if i = 45 then (if 0 < s - pull then s - pull else 0) else s
def bestF (sel : Nat → Bool) (cnt : Nat → Int) : Nat → Int
  | 0 => -1
  | l + 1 => if sel l = true ∧ (bestF sel cnt l = -1 ∨ cnt l < cnt (bestF sel cnt l).toNat) then (l : Int) else bestF sel cnt l
def sumF (f : Nat → Int) : Nat → Int
  | 0 => 0
  | n + 1 => sumF f n + f n
def limG (ends limits : Nat → Int) (p : Int) : Nat → Nat → Int
  | _, 0 => 0
  | i, d + 1 => if p < ends i then limits i else limG ends limits p (i + 1) d

set_option maxRecDepth 100000 in
set_option maxHeartbeats 4000000 in
theorem m_X6_isWithin (g : Geo) (l : Launch) (hl9 : l.stackTraces = false) (σ : St) (a b c : Int) (ha : R32 a) (hb : R32 b) (hc : R32 c) : Met l yX6_isWithin wsX6_isWithin ({ frames := 0, cells := 0, slots := 0, locals := 0 }) (va_Pc [.int (iN (a)), .int (iN (b)), .int (iN (c))] (World g σ)) (QI g (fun z u => z = (if b ≤ a ∧ a ≤ c then 1 else 0) ∧ u = σ)) 0 0 (gA g) := by
  refine V_met hl9 (by decide) rfl (Nat.le_of_ble_eq_true rfl) ?_
  intro p9 e9 s9 m9 b9 t9 c9 X hr _
  refine V_lv (lv' := [(0, .int (iN (a))), (1, .int (iN (b))), (2, .int (iN (c)))]) rfl ?_
  refine V_iload_n X 0 rfl dX6_isWithin_0 rfl ?_
  refine V_iload_n X 1 rfl dX6_isWithin_1 rfl ?_
  refine V_icmp_lt X 14 ha hb dX6_isWithin_2 (by decide) (fun h1 => ?_) (fun h1 => ?_)
  · skip
    refine V_iconst X dX6_isWithin_14 ?_
    exact V_iret X hr (iN_bool (Or.inl rfl)).1 ⟨by decide, by decide⟩ (⟨by first | rw [if_pos (by omega)] | rw [if_neg (by omega)], rfl⟩) dX6_isWithin_15 (by decide) (by decide)
  · skip
    refine V_iload_n X 0 rfl dX6_isWithin_5 rfl ?_
    refine V_iload_n X 2 rfl dX6_isWithin_6 rfl ?_
    refine V_icmp_gt X 14 ha hc dX6_isWithin_7 (by decide) (fun h2 => ?_) (fun h2 => ?_)
    · skip
      refine V_iconst X dX6_isWithin_14 ?_
      exact V_iret X hr (iN_bool (Or.inl rfl)).1 ⟨by decide, by decide⟩ (⟨by first | rw [if_pos (by omega)] | rw [if_neg (by omega)], rfl⟩) dX6_isWithin_15 (by decide) (by decide)
    · skip
      refine V_iconst X dX6_isWithin_10 ?_
      refine V_goto X 15 dX6_isWithin_11 (by decide) ?_
      exact V_iret X hr (iN_bool (Or.inr rfl)).1 ⟨by decide, by decide⟩ (⟨by first | rw [if_pos (by omega)] | rw [if_neg (by omega)], rfl⟩) dX6_isWithin_15 (by decide) (by decide)
theorem atm_X6_track_56 : ∀ w ∈ vx_atS RX6 56 "java/lang/IllegalStateException" ["java/lang/RuntimeException", "java/lang/Exception"], goodWord w = true → w ∈ wsX6_track := fun w h0 hg0 => by
  have h := List.mem_filter.mpr ⟨h0, hg0⟩
  exact List.mem_cons_of_mem _ (List.mem_append_right _ h)
set_option maxRecDepth 100000 in
set_option maxHeartbeats 4000000 in
theorem m_X6_track (g : Geo) (l : Launch) (hl9 : l.stackTraces = false) (σ : St) (hR : RG σ) (h0 : 0 ≤ σ.1 0 1) (h1 : σ.1 0 1 ≤ 4) : vx_Met l yX6_track wsX6_track ({ frames := 6, cells := 1, slots := 6, locals := 90 }) (va_Pc [.ref (ga g (0))] (World g σ)) (QI g (fun z u => σ.1 0 1 < 4 ∧ z = σ.1 0 1 ∧ u = sw σ 0 1 (σ.1 0 1 + 1))) (XT g (fun E u => E = "java/lang/IllegalStateException" ∧ ¬ σ.1 0 1 < 4 ∧ u = σ)) 1 6 (gA g) := by
  refine V_metX hl9 (by decide) rfl (Nat.le_of_ble_eq_true rfl) ?_
  intro p9 e9 s9 m9 b9 t9 c9 X hno hr
  refine V_lv (lv' := [(0, .ref (ga g (0)))]) rfl ?_
  refine V_aload_n X 0 rfl dX6_track_0 rfl ?_
  refine V_get X (ci := 6) (0) (by decide) (rfl) (by decide) rfl (fun _ h => List.mem_cons_of_mem _ (List.mem_append_left _ (List.mem_append_right _ h))) 1 (by decide) (List.mem_of_getElem? (i := 3) rfl) rfl rfl dX6_track_1 ?_
  refine V_iconst X dX6_track_4 ?_
  refine V_icmp_lt X 18 (hR 0 1) ⟨by decide, by decide⟩ dX6_track_5 (by decide) (fun h1 => ?_) (fun h1 => ?_)
  · skip
    refine V_aload_n X 0 rfl dX6_track_18 rfl ?_
    refine V_dup X rfl dX6_track_19 ?_
    refine V_get X (ci := 6) (0) (by decide) (rfl) (by decide) rfl (fun _ h => List.mem_cons_of_mem _ (List.mem_append_left _ (List.mem_append_right _ h))) 1 (by decide) (List.mem_of_getElem? (i := 3) rfl) rfl rfl dX6_track_20 ?_
    refine V_iconst X dX6_track_23 ?_
    refine V_iadd X dX6_track_24 ?_
    refine V_put X (ci := 6) (0) (by decide) (rfl) (by decide) rfl (fun _ h => List.mem_cons_of_mem _ (List.mem_append_left _ (List.mem_append_right _ h))) 1 (by decide) (List.mem_of_getElem? (i := 3) rfl) rfl tyX6 tyX6_ok nmX6 rfl rfl rfl rfl rfl (Nat.le_of_ble_eq_true rfl) dX6_track_25 ?_
    refine V_aload_n X 0 rfl dX6_track_28 rfl ?_
    refine V_get X (ci := 6) (0) (by decide) (rfl) (by decide) rfl (fun _ h => List.mem_cons_of_mem _ (List.mem_append_left _ (List.mem_append_right _ h))) 1 (by decide) (List.mem_of_getElem? (i := 3) rfl) rfl rfl dX6_track_29 ?_
    refine V_top (b := (σ.1 0 1) + 1) rd_s ?_
    refine V_iconst X dX6_track_32 ?_
    refine V_isub X dX6_track_33 ?_
    exact V_iretX X hr rfl ⟨by omega, by omega⟩ (⟨by omega, by omega, rfl⟩) dX6_track_34 (by decide) (by decide)
  · skip
    exact V_throw X hno rfl (List.mem_of_getElem? (i := 0) rfl) (by decide) (List.mem_of_getElem? (i := 1) rfl) (List.mem_of_getElem? (i := 2) rfl) (atm_X6_track_56) gb_X6_56 (List.mem_of_getElem? (i := 0) rfl) (gd_X6_56) dX6_track_8 dX6_track_11 dX6_track_12 dX6_track_14 dX6_track_17 (Nat.le_of_ble_eq_true rfl) (Nat.le_of_ble_eq_true rfl) (Nat.le_of_ble_eq_true rfl) (Nat.le_of_ble_eq_true rfl) (by decide) (by decide) (⟨rfl, by omega, rfl⟩)
set_option maxRecDepth 100000 in
set_option maxHeartbeats 4000000 in
theorem m_X6_wipe (g : Geo) (l : Launch) (hl9 : l.stackTraces = false) (σ : St) (hR : RG σ) : Met l yX6_wipe wsX6_wipe ({ frames := 0, cells := 0, slots := 0, locals := 0 }) (va_Pc [.ref (ga g (0))] (World g σ)) (QI g (fun z u => z = σ.1 0 5 ∧ u = sw σ 0 5 0)) 0 0 (gA g) := by
  refine V_met hl9 (by decide) rfl (Nat.le_of_ble_eq_true rfl) ?_
  intro p9 e9 s9 m9 b9 t9 c9 X hr _
  refine V_lv (lv' := [(0, .ref (ga g (0)))]) rfl ?_
  refine V_aload_n X 0 rfl dX6_wipe_0 rfl ?_
  refine V_get X (ci := 6) (0) (by decide) (rfl) (by decide) rfl (fun _ h => List.mem_cons_of_mem _ (List.mem_append_right _ h)) 5 (by decide) (List.mem_of_getElem? (i := 1) rfl) rfl rfl dX6_wipe_1 ?_
  refine V_istore_n X [(1, .int (iN (σ.1 0 5))), (0, .ref (ga g (0)))] dX6_wipe_4 rfl (by decide) rfl ?_
  refine V_aload_n X 1 rfl dX6_wipe_5 rfl ?_
  refine V_iconst X dX6_wipe_6 ?_
  refine V_put X (ci := 6) (0) (by decide) (rfl) (by decide) rfl (fun _ h => List.mem_cons_of_mem _ (List.mem_append_right _ h)) 5 (by decide) (List.mem_of_getElem? (i := 1) rfl) rfl tyX6 tyX6_ok nmX6 rfl rfl rfl rfl rfl (Nat.le_of_ble_eq_true rfl) dX6_wipe_7 ?_
  refine V_iload_n X 0 rfl dX6_wipe_10 rfl ?_
  exact V_iret X hr rfl (hR 0 5) (⟨rfl, rfl⟩) dX6_wipe_11 (by decide) (by decide)
set_option maxRecDepth 100000 in
set_option maxHeartbeats 4000000 in
theorem m_X6_laps (g : Geo) (l : Launch) (hl9 : l.stackTraces = false) (σ : St) (hR : RG σ) : Met l yX6_laps wsX6_laps ({ frames := 0, cells := 0, slots := 0, locals := 0 }) (va_Pc [.ref (ga g (0))] (World g σ)) (QI g (fun z u => z = σ.1 5 1 ∧ u = σ)) 0 0 (gA g) := by
  refine V_met hl9 (by decide) rfl (Nat.le_of_ble_eq_true rfl) ?_
  intro p9 e9 s9 m9 b9 t9 c9 X hr _
  refine V_lv (lv' := [(0, .ref (ga g (0)))]) rfl ?_
  refine V_aload_n X 0 rfl dX6_laps_0 rfl ?_
  refine V_get X (ci := 6) (0) (by decide) (rfl) (by decide) rfl (fun _ h => List.mem_cons_of_mem _ (List.mem_append_left _ (List.mem_append_right _ h))) 7 (by decide) (List.mem_of_getElem? (i := 1) rfl) rfl rfl dX6_laps_1 ?_
  refine V_get X (ci := 0) (5) (by decide) (rfl) (by decide) rfl (fun _ h => List.mem_cons_of_mem _ (List.mem_append_right _ h)) 1 (by decide) (List.mem_of_getElem? (i := 2) rfl) rfl rfl dX6_laps_4 ?_
  exact V_iret X hr rfl (hR 5 1) (⟨rfl, rfl⟩) dX6_laps_7 (by decide) (by decide)
theorem atm_X6_trackNumbered_293 : ∀ w ∈ vx_atS RX6 293 "java/lang/IndexOutOfBoundsException" ["java/lang/RuntimeException", "java/lang/Exception"], goodWord w = true → w ∈ wsX6_trackNumbered := fun w h0 hg0 => by
  have h := List.mem_filter.mpr ⟨h0, hg0⟩
  exact List.mem_cons_of_mem _ (List.mem_append_right _ h)
set_option maxRecDepth 100000 in
set_option maxHeartbeats 4000000 in
theorem m_X6_trackNumbered (g : Geo) (l : Launch) (hl9 : l.stackTraces = false) (σ : St) (hR : RG σ) (a : Int) (ha : R32 a) (h1 : σ.1 0 1 ≤ 4) : vx_Met l yX6_trackNumbered wsX6_trackNumbered ({ frames := 6, cells := 1, slots := 6, locals := 90 }) (va_Pc [.ref (ga g (0)), .int (iN (a))] (World g σ)) (QR g (fun b u => 0 ≤ a ∧ a < σ.1 0 1 ∧ b = 73 + 3 * a.toNat ∧ u = σ)) (XT g (fun E u => E = "java/lang/IndexOutOfBoundsException" ∧ ¬ (0 ≤ a ∧ a < σ.1 0 1) ∧ u = σ)) 1 6 (gA g) := by
  refine V_metX hl9 (by decide) rfl (Nat.le_of_ble_eq_true rfl) ?_
  intro p9 e9 s9 m9 b9 t9 c9 X hno hr
  refine V_lv (lv' := [(0, .ref (ga g (0))), (1, .int (iN (a)))]) rfl ?_
  refine V_iload_n X 1 rfl dX6_trackNumbered_0 rfl ?_
  refine V_if_lt X 12 ha dX6_trackNumbered_1 (by decide) (fun h1 => ?_) (fun h1 => ?_)
  · skip
    exact V_throwW X hno rfl (List.mem_of_getElem? (i := 29) rfl) (by decide) (List.mem_of_getElem? (i := 1) rfl) (List.mem_of_getElem? (i := 2) rfl) (atm_X6_trackNumbered_293) gb_X6_293 (List.mem_of_getElem? (i := 2) rfl) (gd_X6_293) dX6_trackNumbered_12 dX6_trackNumbered_15 dX6_trackNumbered_16 dX6_trackNumbered_19 dX6_trackNumbered_22 (Nat.le_of_ble_eq_true rfl) (Nat.le_of_ble_eq_true rfl) (Nat.le_of_ble_eq_true rfl) (Nat.le_of_ble_eq_true rfl) (by decide) (by decide) (⟨rfl, by omega, rfl⟩)
  · skip
    refine V_iload_n X 1 rfl dX6_trackNumbered_4 rfl ?_
    refine V_aload_n X 0 rfl dX6_trackNumbered_5 rfl ?_
    refine V_get X (ci := 6) (0) (by decide) (rfl) (by decide) rfl (fun _ h => List.mem_cons_of_mem _ (List.mem_append_left _ (List.mem_append_right _ h))) 1 (by decide) (List.mem_of_getElem? (i := 3) rfl) rfl rfl dX6_trackNumbered_6 ?_
    refine V_icmp_lt X 23 ha (hR 0 1) dX6_trackNumbered_9 (by decide) (fun h2 => ?_) (fun h2 => ?_)
    · skip
      refine V_aload_n X 0 rfl dX6_trackNumbered_23 rfl ?_
      refine V_get X (ci := 6) (0) (by decide) (rfl) (by decide) rfl (fun _ h => List.mem_cons_of_mem _ (List.mem_append_left _ (List.mem_append_right _ h))) 0 (by decide) (List.mem_of_getElem? (i := 4) rfl) rfl rfl dX6_trackNumbered_24 ?_
      refine V_iload_n X 1 rfl dX6_trackNumbered_27 rfl ?_
      refine V_aald14 X (1) (by decide) (rfl) (a.toNat) (by omega) (by omega) dX6_trackNumbered_28 ?_
      exact V_aretX X hr (⟨by omega, by omega, rfl, rfl⟩) dX6_trackNumbered_29 (by decide) (by decide)
    · skip
      exact V_throwW X hno rfl (List.mem_of_getElem? (i := 29) rfl) (by decide) (List.mem_of_getElem? (i := 1) rfl) (List.mem_of_getElem? (i := 2) rfl) (atm_X6_trackNumbered_293) gb_X6_293 (List.mem_of_getElem? (i := 2) rfl) (gd_X6_293) dX6_trackNumbered_12 dX6_trackNumbered_15 dX6_trackNumbered_16 dX6_trackNumbered_19 dX6_trackNumbered_22 (Nat.le_of_ble_eq_true rfl) (Nat.le_of_ble_eq_true rfl) (Nat.le_of_ble_eq_true rfl) (Nat.le_of_ble_eq_true rfl) (by decide) (by decide) (⟨rfl, by omega, rfl⟩)
theorem atm_X6_carNumbered_293 : ∀ w ∈ vx_atS RX6 293 "java/lang/IndexOutOfBoundsException" ["java/lang/RuntimeException", "java/lang/Exception"], goodWord w = true → w ∈ wsX6_carNumbered := fun w h0 hg0 => by
  have h := List.mem_filter.mpr ⟨h0, hg0⟩
  exact List.mem_cons_of_mem _ (List.mem_append_right _ h)
set_option maxRecDepth 100000 in
set_option maxHeartbeats 4000000 in
theorem m_X6_carNumbered (g : Geo) (l : Launch) (hl9 : l.stackTraces = false) (σ : St) (hR : RG σ) (a : Int) (ha : R32 a) (h1 : σ.1 0 3 ≤ 4) : vx_Met l yX6_carNumbered wsX6_carNumbered ({ frames := 6, cells := 1, slots := 6, locals := 90 }) (va_Pc [.ref (ga g (0)), .int (iN (a))] (World g σ)) (QR g (fun b u => 0 ≤ a ∧ a < σ.1 0 3 ∧ b = 85 + a.toNat ∧ u = σ)) (XT g (fun E u => E = "java/lang/IndexOutOfBoundsException" ∧ ¬ (0 ≤ a ∧ a < σ.1 0 3) ∧ u = σ)) 1 6 (gA g) := by
  refine V_metX hl9 (by decide) rfl (Nat.le_of_ble_eq_true rfl) ?_
  intro p9 e9 s9 m9 b9 t9 c9 X hno hr
  refine V_lv (lv' := [(0, .ref (ga g (0))), (1, .int (iN (a)))]) rfl ?_
  refine V_iload_n X 1 rfl dX6_carNumbered_0 rfl ?_
  refine V_if_lt X 12 ha dX6_carNumbered_1 (by decide) (fun h1 => ?_) (fun h1 => ?_)
  · skip
    exact V_throwW X hno rfl (List.mem_of_getElem? (i := 30) rfl) (by decide) (List.mem_of_getElem? (i := 1) rfl) (List.mem_of_getElem? (i := 2) rfl) (atm_X6_carNumbered_293) gb_X6_293 (List.mem_of_getElem? (i := 2) rfl) (gd_X6_293) dX6_carNumbered_12 dX6_carNumbered_15 dX6_carNumbered_16 dX6_carNumbered_19 dX6_carNumbered_22 (Nat.le_of_ble_eq_true rfl) (Nat.le_of_ble_eq_true rfl) (Nat.le_of_ble_eq_true rfl) (Nat.le_of_ble_eq_true rfl) (by decide) (by decide) (⟨rfl, by omega, rfl⟩)
  · skip
    refine V_iload_n X 1 rfl dX6_carNumbered_4 rfl ?_
    refine V_aload_n X 0 rfl dX6_carNumbered_5 rfl ?_
    refine V_get X (ci := 6) (0) (by decide) (rfl) (by decide) rfl (fun _ h => List.mem_cons_of_mem _ (List.mem_append_left _ (List.mem_append_right _ h))) 3 (by decide) (List.mem_of_getElem? (i := 3) rfl) rfl rfl dX6_carNumbered_6 ?_
    refine V_icmp_lt X 23 ha (hR 0 3) dX6_carNumbered_9 (by decide) (fun h2 => ?_) (fun h2 => ?_)
    · skip
      refine V_aload_n X 0 rfl dX6_carNumbered_23 rfl ?_
      refine V_get X (ci := 6) (0) (by decide) (rfl) (by decide) rfl (fun _ h => List.mem_cons_of_mem _ (List.mem_append_left _ (List.mem_append_right _ h))) 2 (by decide) (List.mem_of_getElem? (i := 4) rfl) rfl rfl dX6_carNumbered_24 ?_
      refine V_iload_n X 1 rfl dX6_carNumbered_27 rfl ?_
      refine V_aald15 X (2) (by decide) (rfl) (a.toNat) (by omega) (by omega) dX6_carNumbered_28 ?_
      exact V_aretX X hr (⟨by omega, by omega, rfl, rfl⟩) dX6_carNumbered_29 (by decide) (by decide)
    · skip
      exact V_throwW X hno rfl (List.mem_of_getElem? (i := 30) rfl) (by decide) (List.mem_of_getElem? (i := 1) rfl) (List.mem_of_getElem? (i := 2) rfl) (atm_X6_carNumbered_293) gb_X6_293 (List.mem_of_getElem? (i := 2) rfl) (gd_X6_293) dX6_carNumbered_12 dX6_carNumbered_15 dX6_carNumbered_16 dX6_carNumbered_19 dX6_carNumbered_22 (Nat.le_of_ble_eq_true rfl) (Nat.le_of_ble_eq_true rfl) (Nat.le_of_ble_eq_true rfl) (Nat.le_of_ble_eq_true rfl) (by decide) (by decide) (⟨rfl, by omega, rfl⟩)
set_option maxRecDepth 100000 in
set_option maxHeartbeats 4000000 in
theorem m_X6_lengthOf (g : Geo) (l : Launch) (hl9 : l.stackTraces = false) (σ : St) (hR : RG σ) (a : Int) (ha : R32 a) (hT : σ.1 0 1 ≤ 4) : vx_Met l yX6_lengthOf wsX6_lengthOf ({ frames := 7, cells := 1, slots := 6, locals := 111 }) (va_Pc [.ref (ga g (0)), .int (iN (a))] (World g σ)) (QI g (fun z u => 0 ≤ a ∧ a < σ.1 0 1 ∧ z = σ.1 (73 + 3 * a.toNat) 3 ∧ u = σ)) (XT g (fun E u => E = "java/lang/IndexOutOfBoundsException" ∧ ¬ (0 ≤ a ∧ a < σ.1 0 1) ∧ u = σ)) 1 6 (gA g) := by
  refine V_metX hl9 (by decide) rfl (Nat.le_of_ble_eq_true rfl) ?_
  intro p9 e9 s9 m9 b9 t9 c9 X hno hr
  refine V_lv (lv' := [(0, .ref (ga g (0))), (1, .int (iN (a)))]) rfl ?_
  refine V_aload_n X 0 rfl dX6_lengthOf_0 rfl ?_
  refine V_iload_n X 1 rfl dX6_lengthOf_1 rfl ?_
  refine V_callV_Rx X (na := 1) (ci := 6) (b0 := 0) (by decide) (rfl) (by decide) rfl (m_X6_trackNumbered g l hl9 σ hR a ha hT) gX6_lengthOf_X6_trackNumbered rfl rfl rfl (by decide +kernel) ⟨Nat.le_of_ble_eq_true rfl, Nat.le_of_ble_eq_true rfl⟩ rfl rfl (Nat.le_of_ble_eq_true rfl) ⟨Nat.le_of_ble_eq_true rfl, Nat.le_of_ble_eq_true rfl⟩ dX6_lengthOf_2 (fun E u hp => ?_) (fun z1 u2 hp3 => ?_)
  · skip
    exact VX_out X hno (hp) (by decide) (by decide)
  · skip
    obtain ⟨h1, h2, rfl, rfl⟩ := hp3
    refine V_get X (ci := 5) (73 + 3 * a.toNat) (by omega) (kd_tr (by omega)) (by decide) rfl (fun _ h => List.mem_cons_of_mem _ (List.mem_append_left _ (List.mem_append_left _ (List.mem_append_right _ h)))) 3 (by decide) (List.mem_of_getElem? (i := 1) rfl) rfl rfl dX6_lengthOf_5 ?_
    exact V_iretX X hr rfl (hR (73 + 3 * a.toNat) (3)) (⟨h1, h2, rfl, rfl⟩) dX6_lengthOf_8 (by decide) (by decide)
set_option maxRecDepth 100000 in
set_option maxHeartbeats 4000000 in
theorem m_X1_speedAfter (g : Geo) (l : Launch) (hl9 : l.stackTraces = false) (σ : St) (hR : RG σ) (c : Nat) (hc : c < 4) (s0 i : Int) (hi : R32 i) (h1 : 0 ≤ s0) (h2 : s0 ≤ 1000) (h3 : 0 ≤ σ.1 (85 + c) 1) (h4 : σ.1 (85 + c) 1 ≤ 1000) (h5 : 0 ≤ σ.1 (85 + c) 0) (h6 : σ.1 (85 + c) 0 ≤ 1000) : Met l yX1_speedAfter wsX1_speedAfter ({ frames := 1, cells := 0, slots := 0, locals := 20 }) (va_Pc [.ref (ga g (85 + c)), .int (iN (s0)), .int (iN (i))] (World g σ)) (QI g (fun z u => z = spdF (σ.1 (85 + c) 0) (σ.1 (85 + c) 1) s0 i ∧ u = σ)) 0 0 (gA g) := by
  refine V_met hl9 (by decide) rfl (Nat.le_of_ble_eq_true rfl) ?_
  intro p9 e9 s9 m9 b9 t9 c9 X hr _
  refine V_lv (lv' := [(0, .ref (ga g (85 + c))), (1, .int (iN (s0))), (2, .int (iN (i)))]) rfl ?_
  refine V_iload_n X 2 rfl dX1_speedAfter_0 rfl ?_
  refine V_bipush X (by decide) dX1_speedAfter_1 ?_
  refine V_icmp_ne X 20 hi ⟨by decide, by decide⟩ dX1_speedAfter_3 (by decide) (fun h1 => ?_) (fun h1 => ?_)
  · skip
    refine V_iload_n X 2 rfl dX1_speedAfter_20 rfl ?_
    refine V_bipush X (by decide) dX1_speedAfter_21 ?_
    refine V_icmp_ne X 37 hi ⟨by decide, by decide⟩ dX1_speedAfter_23 (by decide) (fun h2 => ?_) (fun h2 => ?_)
    · skip
      refine V_iload_n X 1 rfl dX1_speedAfter_37 rfl ?_
      exact V_iret X hr rfl ⟨by omega, by omega⟩ (⟨by unfold spdF; simp_all, rfl⟩) dX1_speedAfter_38 (by decide) (by decide)
    · skip
      refine V_iconst X dX1_speedAfter_26 ?_
      refine V_iload_n X 1 rfl dX1_speedAfter_27 rfl ?_
      refine V_aload_n X 0 rfl dX1_speedAfter_28 rfl ?_
      refine V_get X (ci := 1) (85 + c) (by omega) (kd_car hc) (by decide) rfl (fun _ h => List.mem_cons_of_mem _ (List.mem_append_right _ h)) 1 (by decide) (List.mem_of_getElem? (i := 2) rfl) rfl rfl dX1_speedAfter_29 ?_
      refine V_isub X dX1_speedAfter_32 ?_
      refine V_mmax X (List.mem_of_getElem? (i := 7) rfl) (List.mem_of_getElem? (i := 8) rfl) (List.mem_of_getElem? (i := 5) rfl) (List.mem_of_getElem? (i := 9) rfl) (Nat.le_of_ble_eq_true rfl) (Nat.le_of_ble_eq_true rfl) (Nat.le_of_ble_eq_true rfl) (Nat.le_of_ble_eq_true rfl) ⟨by decide, by decide⟩ ⟨by omega, by omega⟩ dX1_speedAfter_33 ?_
      exact V_iret X hr rfl ⟨by omega, by omega⟩ (⟨by unfold spdF; simp_all, rfl⟩) dX1_speedAfter_36 (by decide) (by decide)
  · skip
    refine V_aload_n X 0 rfl dX1_speedAfter_6 rfl ?_
    refine V_get X (ci := 1) (85 + c) (by omega) (kd_car hc) (by decide) rfl (fun _ h => List.mem_cons_of_mem _ (List.mem_append_right _ h)) 0 (by decide) (List.mem_of_getElem? (i := 1) rfl) rfl rfl dX1_speedAfter_7 ?_
    refine V_iload_n X 1 rfl dX1_speedAfter_10 rfl ?_
    refine V_aload_n X 0 rfl dX1_speedAfter_11 rfl ?_
    refine V_get X (ci := 1) (85 + c) (by omega) (kd_car hc) (by decide) rfl (fun _ h => List.mem_cons_of_mem _ (List.mem_append_right _ h)) 1 (by decide) (List.mem_of_getElem? (i := 2) rfl) rfl rfl dX1_speedAfter_12 ?_
    refine V_iadd X dX1_speedAfter_15 ?_
    refine V_mmin X (List.mem_of_getElem? (i := 3) rfl) (List.mem_of_getElem? (i := 4) rfl) (List.mem_of_getElem? (i := 5) rfl) (List.mem_of_getElem? (i := 6) rfl) (Nat.le_of_ble_eq_true rfl) (Nat.le_of_ble_eq_true rfl) (Nat.le_of_ble_eq_true rfl) (Nat.le_of_ble_eq_true rfl) (hR (85 + c) (0)) ⟨by omega, by omega⟩ dX1_speedAfter_16 ?_
    exact V_iret X hr rfl ⟨by omega, by omega⟩ (⟨by unfold spdF; simp_all, rfl⟩) dX1_speedAfter_19 (by decide) (by decide)
end
