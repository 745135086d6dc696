set_option maxRecDepth 20000 in
theorem ggX0_init_X2_init : GoodIn wsX0_init wsX2_init := goodIn_r _ [9, 10, 2, 3, 11, 12, 15, 16, 17, 18, 19, 20, 21, 22, 23, 24, 25, 26, 27] (by decide +kernel) (by decide +kernel)
set_option maxRecDepth 20000 in
theorem gX0_init_X2_init_n17 : GoodIn wsX0_init (wsX2_init) := ggX0_init_X2_init
set_option maxRecDepth 20000 in
theorem ggX0_hasGhost_X0_has : GoodIn wsX0_hasGhost wsX0_has := goodIn_r _ [8, 9, 10, 11] (by decide +kernel) (by decide +kernel)
set_option maxRecDepth 20000 in
theorem gX0_hasGhost_X0_has : GoodIn wsX0_hasGhost (wsV RX0 22 RX0 yX0_has wsX0_has) := goodIn_app (goodIn_of _ (by decide +kernel)) ggX0_hasGhost_X0_has
set_option maxRecDepth 20000 in
theorem ggX0_add_X0_has : GoodIn wsX0_add wsX0_has := goodIn_r _ [9, 4, 41, 42] (by decide +kernel) (by decide +kernel)
set_option maxRecDepth 20000 in
theorem gX0_add_X0_has : GoodIn wsX0_add (wsV RX0 22 RX0 yX0_has wsX0_has) := goodIn_app (goodIn_of _ (by decide +kernel)) ggX0_add_X0_has
set_option maxRecDepth 20000 in
theorem ggX0_add_X0_store : GoodIn wsX0_add wsX0_store := goodIn_r _ [13, 14, 2, 15, 16, 5, 6, 7, 8, 9, 4, 17, 18, 19, 20, 21, 22, 23, 28, 29, 30, 31, 32, 33, 34, 35, 36, 37, 38, 39, 40, 41, 42] (by decide +kernel) (by decide +kernel)
set_option maxRecDepth 20000 in
theorem gX0_add_X0_store : GoodIn wsX0_add (wsV RX0 39 RX0 yX0_store wsX0_store) := goodIn_app (goodIn_of _ (by decide +kernel)) ggX0_add_X0_store
set_option maxRecDepth 20000 in
theorem ggX0_add_X0_settleDepth : GoodIn wsX0_add wsX0_settleDepth := goodIn_r _ [27, 14, 2, 3, 5, 6, 7, 8, 9, 4, 28, 29, 30, 31, 32, 33, 34, 35, 36, 37, 38, 39, 40, 41, 42] (by decide +kernel) (by decide +kernel)
set_option maxRecDepth 20000 in
theorem gX0_add_X0_settleDepth : GoodIn wsX0_add (wsV RX0 43 RX0 yX0_settleDepth wsX0_settleDepth) := goodIn_app (goodIn_of _ (by decide +kernel)) ggX0_add_X0_settleDepth
set_option maxRecDepth 20000 in
theorem ggX0_store_X0_has : GoodIn wsX0_store wsX0_has := goodIn_r _ [9, 10, 31, 32] (by decide +kernel) (by decide +kernel)
set_option maxRecDepth 20000 in
theorem gX0_store_X0_has : GoodIn wsX0_store (wsV RX0 22 RX0 yX0_has wsX0_has) := goodIn_app (goodIn_of _ (by decide +kernel)) ggX0_store_X0_has
set_option maxRecDepth 20000 in
theorem ggX0_store_X2_inputsUnlike : GoodIn wsX0_store wsX2_inputsUnlike := goodIn_r _ [15, 16, 17, 18, 19, 20, 21, 22, 23, 24, 25, 26, 27, 28, 29, 30] (by decide +kernel) (by decide +kernel)
set_option maxRecDepth 20000 in
theorem gX0_store_X2_inputsUnlike : GoodIn wsX0_store (wsV RX0 50 RX2 yX2_inputsUnlike wsX2_inputsUnlike) := goodIn_app (goodIn_of _ (by decide +kernel)) ggX0_store_X2_inputsUnlike
set_option maxRecDepth 20000 in
theorem ggX0_settleDepth_X0_has : GoodIn wsX0_settleDepth wsX0_has := goodIn_r _ [8, 9, 23, 24] (by decide +kernel) (by decide +kernel)
set_option maxRecDepth 20000 in
theorem gX0_settleDepth_X0_has : GoodIn wsX0_settleDepth (wsV RX0 22 RX0 yX0_has wsX0_has) := goodIn_app (goodIn_of _ (by decide +kernel)) ggX0_settleDepth_X0_has
set_option maxRecDepth 20000 in
theorem ggX0_moveFrom_X0_store : GoodIn wsX0_moveFrom wsX0_store := goodIn_r _ [8, 3, 2, 9, 10, 11, 12, 13, 7, 14, 1, 15, 16, 17, 18, 19, 20, 21, 29, 30, 31, 32, 33, 34, 35, 36, 37, 38, 39, 40, 41, 27, 28] (by decide +kernel) (by decide +kernel)
set_option maxRecDepth 20000 in
theorem gX0_moveFrom_X0_store : GoodIn wsX0_moveFrom (wsV RX0 39 RX0 yX0_store wsX0_store) := goodIn_app (goodIn_of _ (by decide +kernel)) ggX0_moveFrom_X0_store
set_option maxRecDepth 20000 in
theorem ggX0_moveFrom_X0_settleDepth : GoodIn wsX0_moveFrom wsX0_settleDepth := goodIn_r _ [25, 3, 2, 26, 11, 12, 13, 7, 14, 1, 29, 30, 31, 32, 33, 34, 35, 36, 37, 38, 39, 40, 41, 27, 28] (by decide +kernel) (by decide +kernel)
set_option maxRecDepth 20000 in
theorem gX0_moveFrom_X0_settleDepth : GoodIn wsX0_moveFrom (wsV RX0 43 RX0 yX0_settleDepth wsX0_settleDepth) := goodIn_app (goodIn_of _ (by decide +kernel)) ggX0_moveFrom_X0_settleDepth
set_option maxRecDepth 20000 in
theorem ggX0_countResting_X0_restsOn : GoodIn wsX0_countResting wsX0_restsOn := goodIn_r _ [6, 7, 8, 9, 10, 11, 5, 12, 1, 13, 14, 15, 16, 17, 18, 19, 20, 21, 22, 23, 24, 25, 26, 27] (by decide +kernel) (by decide +kernel)
set_option maxRecDepth 20000 in
theorem gX0_countResting_X0_restsOn : GoodIn wsX0_countResting (wsV RX0 60 RX0 yX0_restsOn wsX0_restsOn) := goodIn_app (goodIn_of _ (by decide +kernel)) ggX0_countResting_X0_restsOn
set_option maxRecDepth 20000 in
theorem ggX0_restsOn_X0_has : GoodIn wsX0_restsOn wsX0_has := goodIn_r _ [7, 8, 9, 10] (by decide +kernel) (by decide +kernel)
set_option maxRecDepth 20000 in
theorem gX0_restsOn_X0_has : GoodIn wsX0_restsOn (wsV RX0 22 RX0 yX0_has wsX0_has) := goodIn_app (goodIn_of _ (by decide +kernel)) ggX0_restsOn_X0_has
set_option maxRecDepth 20000 in
theorem ggX0_leastOn_X0_isAhead : GoodIn wsX0_leastOn wsX0_isAhead := goodIn_r _ [9, 2, 10, 11, 12, 8, 13, 1, 14, 15, 16, 17, 18, 19, 20, 21, 22, 23, 24, 25, 26, 27, 28, 29, 30, 31, 32, 33, 34, 35] (by decide +kernel) (by decide +kernel)
set_option maxRecDepth 20000 in
theorem gX0_leastOn_X0_isAhead : GoodIn wsX0_leastOn (wsV RX0 64 RX0 yX0_isAhead wsX0_isAhead) := goodIn_app (goodIn_of _ (by decide +kernel)) ggX0_leastOn_X0_isAhead
set_option maxRecDepth 20000 in
theorem ggX0_isAhead_X0_has : GoodIn wsX0_isAhead wsX0_has := goodIn_r _ [6, 7, 15, 16] (by decide +kernel) (by decide +kernel)
set_option maxRecDepth 20000 in
theorem gX0_isAhead_X0_has : GoodIn wsX0_isAhead (wsV RX0 22 RX0 yX0_has wsX0_has) := goodIn_app (goodIn_of _ (by decide +kernel)) ggX0_isAhead_X0_has
set_option maxRecDepth 20000 in
theorem ggX0_isAhead_X2_counted : GoodIn wsX0_isAhead wsX2_counted := goodIn_r _ [12, 13, 14, 17, 18, 19, 20, 21, 22, 23, 24, 25, 26, 27, 28, 29] (by decide +kernel) (by decide +kernel)
set_option maxRecDepth 20000 in
theorem gX0_isAhead_X2_counted : GoodIn wsX0_isAhead (wsV RX0 67 RX2 yX2_counted wsX2_counted) := goodIn_app (goodIn_of _ (by decide +kernel)) ggX0_isAhead_X2_counted


set_option maxRecDepth 20000 in
theorem ggX3_follow_X3_move : GoodIn wsX3_follow wsX3_move := goodIn_r _ [10, 3, 2, 1, 11, 12, 13, 14, 15, 16, 17, 18, 19, 20, 21, 22, 23, 24, 25, 26, 27, 28, 29, 9, 30, 5, 4, 31, 32, 33, 34, 35, 36, 37, 38, 39, 40, 41, 42, 43, 44, 45, 46, 47, 48, 49, 50, 51] (by decide +kernel) (by decide +kernel)
set_option maxRecDepth 20000 in
theorem gX3_follow_X3_move : GoodIn wsX3_follow (wsV RX3 26 RX3 yX3_move wsX3_move) := goodIn_app (goodIn_of _ (by decide +kernel)) ggX3_follow_X3_move
set_option maxRecDepth 20000 in
theorem ggX3_move_X1_speedAfter : GoodIn wsX3_move wsX1_speedAfter := goodIn_r _ [10, 11, 12, 13, 14, 15, 16, 17, 18, 19, 45, 46, 47] (by decide +kernel) (by decide +kernel)
set_option maxRecDepth 20000 in
theorem gX3_move_X1_speedAfter : GoodIn wsX3_move (wsV RX3 30 RX1 yX1_speedAfter wsX1_speedAfter) := goodIn_app (goodIn_of _ (by decide +kernel)) ggX3_move_X1_speedAfter
set_option maxRecDepth 20000 in
theorem ggX3_move_X3_finish : GoodIn wsX3_move wsX3_finish := goodIn_r _ [24, 25, 2, 1, 26, 35, 36, 37, 38, 39] (by decide +kernel) (by decide +kernel)
set_option maxRecDepth 20000 in
theorem gX3_move_X3_finish : GoodIn wsX3_move (wsV RX3 41 RX3 yX3_finish wsX3_finish) := goodIn_app (goodIn_of _ (by decide +kernel)) ggX3_move_X3_finish
set_option maxRecDepth 20000 in
theorem ggX3_move_X5_limitOf : GoodIn wsX3_move wsX5_limitOf := goodIn_r _ [31, 32, 33, 34, 40, 41, 42, 43, 44] (by decide +kernel) (by decide +kernel)
set_option maxRecDepth 20000 in
theorem gX3_move_X5_limitOf : GoodIn wsX3_move (wsV RX3 45 RX5 yX5_limitOf wsX5_limitOf) := goodIn_app (goodIn_of _ (by decide +kernel)) ggX3_move_X5_limitOf
set_option maxRecDepth 20000 in
theorem ggX4_findLaps_X0_isAhead : GoodIn wsX4_findLaps wsX0_isAhead := goodIn_r _ [11, 12, 13, 14, 15, 10, 16, 17, 18, 19, 20, 21, 22, 23, 24, 33, 34, 35, 36, 37, 38, 39, 40, 41, 42, 43, 44, 45, 46, 47] (by decide +kernel) (by decide +kernel)
set_option maxRecDepth 20000 in
theorem gX4_findLaps_X0_isAhead : GoodIn wsX4_findLaps (wsV RX4 55 RX0 yX0_isAhead wsX0_isAhead) := goodIn_app (goodIn_of _ (by decide +kernel)) ggX4_findLaps_X0_isAhead
set_option maxRecDepth 20000 in
theorem ggX4_lapsAhead_X0_isAhead : GoodIn wsX4_lapsAhead wsX0_isAhead := goodIn_r _ [6, 7, 8, 9, 10, 5, 11, 12, 13, 14, 15, 16, 17, 18, 19, 28, 29, 30, 31, 32, 33, 34, 35, 36, 37, 38, 39, 40, 41, 42] (by decide +kernel) (by decide +kernel)
set_option maxRecDepth 20000 in
theorem gX4_lapsAhead_X0_isAhead : GoodIn wsX4_lapsAhead (wsV RX4 55 RX0 yX0_isAhead wsX0_isAhead) := goodIn_app (goodIn_of _ (by decide +kernel)) ggX4_lapsAhead_X0_isAhead
set_option maxRecDepth 20000 in
theorem ggX4_reckon_X4_findLaps : GoodIn wsX4_reckon wsX4_findLaps := goodIn_r _ [9, 10, 11, 12, 13, 14, 15, 16, 17, 18, 19, 20, 21, 22, 23, 24, 25, 26, 27, 28, 29, 30, 31, 32, 33, 47, 48, 49, 50, 51, 52, 53, 54, 55, 56, 57, 58, 59, 60, 61, 62, 63, 64, 65, 66, 67, 68, 69] (by decide +kernel) (by decide +kernel)
set_option maxRecDepth 20000 in
theorem gX4_reckon_X4_findLaps : GoodIn wsX4_reckon (wsV RX4 59 RX4 yX4_findLaps wsX4_findLaps) := goodIn_app (goodIn_of _ (by decide +kernel)) ggX4_reckon_X4_findLaps
set_option maxRecDepth 20000 in
theorem ggX4_reckon_X4_score : GoodIn wsX4_reckon wsX4_score := goodIn_r _ [37, 10, 2, 38, 1, 39, 40, 41, 8, 42, 16, 17, 18, 19, 20, 21, 22, 23, 24, 25, 26, 27, 28, 29, 30, 31, 32, 33, 47, 48, 49, 50, 51, 52, 53, 54, 55, 56, 57, 58, 59, 60, 61, 62, 63, 64, 65, 66, 67, 68, 69] (by decide +kernel) (by decide +kernel)
set_option maxRecDepth 20000 in
theorem gX4_reckon_X4_score : GoodIn wsX4_reckon (wsV RX4 63 RX4 yX4_score wsX4_score) := goodIn_app (goodIn_of _ (by decide +kernel)) ggX4_reckon_X4_score
set_option maxRecDepth 20000 in
theorem ggX4_reckon_X4_takeLeast : GoodIn wsX4_reckon wsX4_takeLeast := goodIn_r _ [46, 3, 38, 47, 48, 49, 50, 51, 52, 53, 54] (by decide +kernel) (by decide +kernel)
set_option maxRecDepth 20000 in
theorem gX4_reckon_X4_takeLeast : GoodIn wsX4_reckon (wsV RX4 70 RX4 yX4_takeLeast wsX4_takeLeast) := goodIn_app (goodIn_of _ (by decide +kernel)) ggX4_reckon_X4_takeLeast
set_option maxRecDepth 20000 in
theorem ggX4_score_X4_lapsAhead : GoodIn wsX4_score wsX4_lapsAhead := goodIn_r _ [9, 1, 10, 11, 12, 13, 14, 15, 16, 17, 18, 19, 20, 21, 22, 23, 24, 25, 26, 27, 28, 29, 30, 31, 32, 33, 34, 35, 36, 37, 38, 39, 40, 41, 42, 43, 44, 45, 46, 47, 48, 49, 50] (by decide +kernel) (by decide +kernel)
set_option maxRecDepth 20000 in
theorem gX4_score_X4_lapsAhead : GoodIn wsX4_score (wsV RX4 74 RX4 yX4_lapsAhead wsX4_lapsAhead) := goodIn_app (goodIn_of _ (by decide +kernel)) ggX4_score_X4_lapsAhead
set_option maxRecDepth 20000 in
theorem ggX4_driverBehind_X4_isAheadInSeason : GoodIn wsX4_driverBehind wsX4_isAheadInSeason := goodIn_r _ [5, 6, 7, 8, 9, 10, 11, 12, 13, 14, 15] (by decide +kernel) (by decide +kernel)
set_option maxRecDepth 20000 in
theorem gX4_driverBehind_X4_isAheadInSeason : GoodIn wsX4_driverBehind (wsV RX4 81 RX4 yX4_isAheadInSeason wsX4_isAheadInSeason) := goodIn_app (goodIn_of _ (by decide +kernel)) ggX4_driverBehind_X4_isAheadInSeason

set_option maxRecDepth 20000 in
theorem ggX6_init_X3_init : GoodIn wsX6_init wsX3_init := goodIn_r _ [27, 28, 2, 3] (by decide +kernel) (by decide +kernel)
set_option maxRecDepth 20000 in
theorem gX6_init_X3_init_n27 : GoodIn wsX6_init (wsX3_init) := ggX6_init_X3_init
set_option maxRecDepth 20000 in
theorem ggX6_init_X0_init : GoodIn wsX6_init wsX0_init := goodIn_r _ [31, 32, 2, 3, 33, 34, 35, 36, 37, 38, 39, 8, 40, 73, 74, 91, 92, 93, 94, 95, 96, 97, 98, 99, 100, 101, 102, 103] (by decide +kernel) (by decide +kernel)
set_option maxRecDepth 20000 in
theorem gX6_init_X0_init : GoodIn wsX6_init (wsX0_init) := ggX6_init_X0_init
set_option maxRecDepth 20000 in
theorem ggX6_init_X4_init : GoodIn wsX6_init wsX4_init := goodIn_r _ [42, 43, 2, 3, 44, 45, 46, 47, 48, 49, 50, 75, 76, 77, 78, 79, 80, 81, 82] (by decide +kernel) (by decide +kernel)
set_option maxRecDepth 20000 in
theorem gX6_init_X4_init_n41 : GoodIn wsX6_init (wsX4_init) := ggX6_init_X4_init
set_option maxRecDepth 20000 in
theorem ggX6_init_X5_init : GoodIn wsX6_init wsX5_init := goodIn_r _ [52, 53, 2, 3, 44, 54, 55, 83, 84, 85, 86, 87] (by decide +kernel) (by decide +kernel)
set_option maxRecDepth 20000 in
theorem gX6_init_X5_init_n46 : GoodIn wsX6_init (wsX5_init) := ggX6_init_X5_init
set_option maxRecDepth 20000 in
theorem ggX6_init_X1_init : GoodIn wsX6_init wsX1_init := goodIn_r _ [57, 58, 2, 3] (by decide +kernel) (by decide +kernel)
set_option maxRecDepth 20000 in
theorem gX6_init_X1_init_n47 : GoodIn wsX6_init (wsX1_init) := ggX6_init_X1_init
set_option maxRecDepth 20000 in
theorem ggX6_stretch_X6_trackNumbered : GoodIn wsX6_stretch wsX6_trackNumbered := goodIn_ca (goodIn_r _ [14, 15, 16, 17, 18, 36, 37, 38, 39, 40, 41, 42, 43, 44] (by decide +kernel) (by decide +kernel)) (goodIn_sub (fun _ h => List.mem_cons_of_mem _ (List.mem_append_right _ h)) (by decide +kernel))
set_option maxRecDepth 20000 in
theorem gX6_stretch_X6_trackNumbered : GoodIn wsX6_stretch (wsV RX6 59 RX6 yX6_trackNumbered wsX6_trackNumbered) := goodIn_app (goodIn_of _ (by decide +kernel)) ggX6_stretch_X6_trackNumbered
set_option maxRecDepth 20000 in
theorem ggX6_stretch_X6_isWithin : GoodIn wsX6_stretch wsX6_isWithin := goodIn_r _ [21] (by decide +kernel) (by decide +kernel)
set_option maxRecDepth 20000 in
theorem gX6_stretch_X6_isWithin : GoodIn wsX6_stretch (va_wsS RX6 63 yX6_isWithin wsX6_isWithin) := goodIn_app (goodIn_of _ (by decide +kernel)) ggX6_stretch_X6_isWithin
set_option maxRecDepth 20000 in
theorem ggX6_stretch_X5_append : GoodIn wsX6_stretch wsX5_append := goodIn_r _ [26, 27, 28, 29, 30, 31, 32, 33, 34, 35] (by decide +kernel) (by decide +kernel)
set_option maxRecDepth 20000 in
theorem gX6_stretch_X5_append : GoodIn wsX6_stretch (wsV RX6 86 RX5 yX5_append wsX5_append) := goodIn_app (goodIn_of _ (by decide +kernel)) ggX6_stretch_X5_append
set_option maxRecDepth 20000 in
theorem ggX6_car_X6_isWithin : GoodIn wsX6_car wsX6_isWithin := goodIn_r _ [13] (by decide +kernel) (by decide +kernel)
set_option maxRecDepth 20000 in
theorem gX6_car_X6_isWithin : GoodIn wsX6_car (va_wsS RX6 63 yX6_isWithin wsX6_isWithin) := goodIn_app (goodIn_of _ (by decide +kernel)) ggX6_car_X6_isWithin
set_option maxRecDepth 20000 in
theorem ggX6_lengthOf_X6_trackNumbered : GoodIn wsX6_lengthOf wsX6_trackNumbered := goodIn_ca (goodIn_r _ [6, 7, 8, 9, 10, 16, 17, 18, 19, 20, 21, 22, 23, 24] (by decide +kernel) (by decide +kernel)) (goodIn_sub (fun _ h => List.mem_cons_of_mem _ (List.mem_append_right _ h)) (by decide +kernel))
set_option maxRecDepth 20000 in
theorem gX6_lengthOf_X6_trackNumbered : GoodIn wsX6_lengthOf (wsV RX6 59 RX6 yX6_trackNumbered wsX6_trackNumbered) := goodIn_app (goodIn_of _ (by decide +kernel)) ggX6_lengthOf_X6_trackNumbered
set_option maxRecDepth 20000 in
theorem ggX6_limitAt_X6_trackNumbered : GoodIn wsX6_limitAt wsX6_trackNumbered := goodIn_ca (goodIn_r _ [8, 9, 10, 11, 12, 26, 27, 28, 29, 30, 31, 32, 33, 34] (by decide +kernel) (by decide +kernel)) (goodIn_sub (fun _ h => List.mem_cons_of_mem _ (List.mem_append_right _ h)) (by decide +kernel))
set_option maxRecDepth 20000 in
theorem gX6_limitAt_X6_trackNumbered : GoodIn wsX6_limitAt (wsV RX6 59 RX6 yX6_trackNumbered wsX6_trackNumbered) := goodIn_app (goodIn_of _ (by decide +kernel)) ggX6_limitAt_X6_trackNumbered
set_option maxRecDepth 20000 in
theorem ggX6_limitAt_X5_limitOf : GoodIn wsX6_limitAt wsX5_limitOf := goodIn_r _ [17, 18, 19, 20, 21, 22, 23, 24, 25] (by decide +kernel) (by decide +kernel)
set_option maxRecDepth 20000 in
theorem gX6_limitAt_X5_limitOf : GoodIn wsX6_limitAt (wsV RX6 114 RX5 yX5_limitOf wsX5_limitOf) := goodIn_app (goodIn_of _ (by decide +kernel)) ggX6_limitAt_X5_limitOf
set_option maxRecDepth 20000 in
theorem ggX6_type_X6_isWithin : GoodIn wsX6_type wsX6_isWithin := goodIn_r _ [10] (by decide +kernel) (by decide +kernel)
set_option maxRecDepth 20000 in
theorem gX6_type_X6_isWithin : GoodIn wsX6_type (va_wsS RX6 63 yX6_isWithin wsX6_isWithin) := goodIn_app (goodIn_of _ (by decide +kernel)) ggX6_type_X6_isWithin
set_option maxRecDepth 20000 in
theorem ggX6_drive_X6_requireDriver : GoodIn wsX6_drive wsX6_requireDriver := goodIn_ca (goodIn_r _ [22, 23, 24] (by decide +kernel) (by decide +kernel)) (goodIn_sub (fun _ h => List.mem_cons_of_mem _ (List.mem_append_left _ (List.mem_append_right _ h))) (by decide +kernel))
set_option maxRecDepth 20000 in
theorem gX6_drive_X6_requireDriver : GoodIn wsX6_drive (wsV RX6 125 RX6 yX6_requireDriver wsX6_requireDriver) := goodIn_app (goodIn_of _ (by decide +kernel)) ggX6_drive_X6_requireDriver
set_option maxRecDepth 20000 in
theorem ggX6_drive_X6_trackNumbered : GoodIn wsX6_drive wsX6_trackNumbered := goodIn_ca (goodIn_r _ [28, 23, 24, 29, 30, 140, 141, 142, 143, 144, 145, 146, 147, 148] (by decide +kernel) (by decide +kernel)) (goodIn_sub (fun _ h => List.mem_cons_of_mem _ (List.mem_append_left _ (List.mem_append_right _ h))) (by decide +kernel))
set_option maxRecDepth 20000 in
theorem gX6_drive_X6_trackNumbered : GoodIn wsX6_drive (wsV RX6 59 RX6 yX6_trackNumbered wsX6_trackNumbered) := goodIn_app (goodIn_of _ (by decide +kernel)) ggX6_drive_X6_trackNumbered
set_option maxRecDepth 20000 in
theorem ggX6_drive_X6_carNumbered : GoodIn wsX6_drive wsX6_carNumbered := goodIn_ca (goodIn_r _ [34, 23, 24, 35, 36, 140, 141, 142, 143, 144, 145, 146, 147, 148] (by decide +kernel) (by decide +kernel)) (goodIn_sub (fun _ h => List.mem_cons_of_mem _ (List.mem_append_left _ (List.mem_append_right _ h))) (by decide +kernel))
set_option maxRecDepth 20000 in
theorem gX6_drive_X6_carNumbered : GoodIn wsX6_drive (wsV RX6 129 RX6 yX6_carNumbered wsX6_carNumbered) := goodIn_app (goodIn_of _ (by decide +kernel)) ggX6_drive_X6_carNumbered
set_option maxRecDepth 20000 in
theorem ggX6_drive_X0_hasGhost : GoodIn wsX6_drive wsX0_hasGhost := goodIn_r _ [41, 42, 43, 44, 45, 46, 47, 40, 48, 49, 149, 150, 151, 152, 153, 154, 155, 156, 157, 158, 159, 160, 161, 162, 163] (by decide +kernel) (by decide +kernel)
set_option maxRecDepth 20000 in
theorem gX6_drive_X0_hasGhost : GoodIn wsX6_drive (wsV RX6 133 RX0 yX0_hasGhost wsX0_hasGhost) := goodIn_app (goodIn_of _ (by decide +kernel)) ggX6_drive_X0_hasGhost
set_option maxRecDepth 20000 in
theorem ggX6_drive_X6_rideTyped : GoodIn wsX6_drive wsX6_rideTyped := goodIn_ca (goodIn_r _ [53, 54, 55, 56, 14, 15, 17, 57, 58, 59, 60, 61, 62, 63, 64, 65, 66, 67, 68, 69, 70, 71, 72, 73, 74, 75, 76, 77, 78, 79, 80, 81, 82, 83, 84, 85, 86, 87, 88, 89, 90, 91, 92, 93, 94, 95, 96, 97, 98, 99, 164, 165, 166, 167, 168, 140, 141, 142, 143, 144, 145, 146, 147, 148, 169, 170, 171, 172, 173, 174, 175, 176] (by decide +kernel) (by decide +kernel)) (goodIn_sub (fun _ h => List.mem_cons_of_mem _ (List.mem_append_right _ h)) (by decide +kernel))
set_option maxRecDepth 20000 in
theorem gX6_drive_X6_rideTyped : GoodIn wsX6_drive (wsV RX6 139 RX6 yX6_rideTyped wsX6_rideTyped) := goodIn_app (goodIn_of _ (by decide +kernel)) ggX6_drive_X6_rideTyped
set_option maxRecDepth 20000 in
theorem ggX6_drive_X4_roundOn : GoodIn wsX6_drive wsX4_roundOn := goodIn_r _ [104, 105, 106, 107, 177, 178, 179, 180, 181, 182, 183, 184] (by decide +kernel) (by decide +kernel)
set_option maxRecDepth 20000 in
theorem gX6_drive_X4_roundOn : GoodIn wsX6_drive (wsV RX6 166 RX4 yX4_roundOn wsX4_roundOn) := goodIn_app (goodIn_of _ (by decide +kernel)) ggX6_drive_X4_roundOn
set_option maxRecDepth 20000 in
theorem ggX6_drive_X2_keep : GoodIn wsX6_drive wsX2_keep := goodIn_r _ [112, 113, 114, 115, 116, 117, 118, 169, 170, 171, 172, 173, 151, 152, 153, 154, 155, 156, 157, 158, 159, 160, 161, 162, 163] (by decide +kernel) (by decide +kernel)
set_option maxRecDepth 20000 in
theorem gX6_drive_X2_keep : GoodIn wsX6_drive (wsV RX6 172 RX2 yX2_keep wsX2_keep) := goodIn_app (goodIn_of _ (by decide +kernel)) ggX6_drive_X2_keep
set_option maxRecDepth 20000 in
theorem ggX6_drive_X0_add : GoodIn wsX6_drive wsX0_add := goodIn_r _ [122, 123, 42, 124, 49, 45, 46, 47, 40, 48, 125, 126, 127, 128, 129, 130, 131, 132, 133, 134, 111, 135, 115, 114, 136, 137, 138, 139, 151, 152, 153, 154, 155, 156, 157, 158, 159, 160, 161, 162, 163, 149, 150] (by decide +kernel) (by decide +kernel)
set_option maxRecDepth 20000 in
theorem gX6_drive_X0_add : GoodIn wsX6_drive (wsV RX6 176 RX0 yX0_add wsX0_add) := goodIn_app (goodIn_of _ (by decide +kernel)) ggX6_drive_X0_add
set_option maxRecDepth 20000 in
theorem ggX6_tryOut_X6_trackNumbered : GoodIn wsX6_tryOut wsX6_trackNumbered := goodIn_ca (goodIn_r _ [7, 8, 9, 10, 11, 70, 71, 72, 73, 74, 75, 76, 77, 78] (by decide +kernel) (by decide +kernel)) (goodIn_sub (fun _ h => List.mem_cons_of_mem _ (List.mem_append_left _ (List.mem_append_right _ h))) (by decide +kernel))
set_option maxRecDepth 20000 in
theorem gX6_tryOut_X6_trackNumbered : GoodIn wsX6_tryOut (wsV RX6 59 RX6 yX6_trackNumbered wsX6_trackNumbered) := goodIn_app (goodIn_of _ (by decide +kernel)) ggX6_tryOut_X6_trackNumbered
set_option maxRecDepth 20000 in
theorem ggX6_tryOut_X6_carNumbered : GoodIn wsX6_tryOut wsX6_carNumbered := goodIn_ca (goodIn_r _ [15, 8, 9, 16, 17, 70, 71, 72, 73, 74, 75, 76, 77, 78] (by decide +kernel) (by decide +kernel)) (goodIn_sub (fun _ h => List.mem_cons_of_mem _ (List.mem_append_left _ (List.mem_append_right _ h))) (by decide +kernel))
set_option maxRecDepth 20000 in
theorem gX6_tryOut_X6_carNumbered : GoodIn wsX6_tryOut (wsV RX6 129 RX6 yX6_carNumbered wsX6_carNumbered) := goodIn_app (goodIn_of _ (by decide +kernel)) ggX6_tryOut_X6_carNumbered
set_option maxRecDepth 20000 in
theorem ggX6_tryOut_X6_rideTyped : GoodIn wsX6_tryOut wsX6_rideTyped := goodIn_ca (goodIn_r _ [21, 22, 23, 24, 1, 25, 26, 27, 28, 29, 30, 31, 32, 33, 34, 35, 36, 37, 38, 39, 40, 41, 42, 43, 44, 45, 46, 47, 48, 49, 50, 51, 52, 53, 54, 55, 56, 57, 58, 59, 60, 61, 62, 63, 64, 65, 66, 67, 68, 69, 84, 85, 86, 87, 88, 70, 71, 72, 73, 74, 75, 76, 77, 78, 79, 80, 81, 82, 83, 89, 90, 91] (by decide +kernel) (by decide +kernel)) (goodIn_sub (fun _ h => List.mem_cons_of_mem _ (List.mem_append_right _ h)) (by decide +kernel))
set_option maxRecDepth 20000 in
theorem gX6_tryOut_X6_rideTyped : GoodIn wsX6_tryOut (wsV RX6 139 RX6 yX6_rideTyped wsX6_rideTyped) := goodIn_app (goodIn_of _ (by decide +kernel)) ggX6_tryOut_X6_rideTyped
set_option maxRecDepth 20000 in
theorem ggX6_rideTyped_X3_follow : GoodIn wsX6_rideTyped wsX3_follow := goodIn_r _ [12, 13, 14, 15, 16, 17, 18, 19, 20, 11, 21, 22, 23, 24, 25, 26, 27, 28, 29, 30, 31, 32, 33, 34, 35, 36, 37, 38, 39, 40, 41, 42, 43, 44, 45, 46, 47, 48, 49, 64, 65, 66, 67, 68, 50, 51, 52, 53, 54, 69, 70, 71] (by decide +kernel) (by decide +kernel)
set_option maxRecDepth 20000 in
theorem gX6_rideTyped_X3_follow : GoodIn wsX6_rideTyped (wsV RX6 185 RX3 yX3_follow wsX3_follow) := goodIn_app (goodIn_of _ (by decide +kernel)) ggX6_rideTyped_X3_follow
set_option maxRecDepth 20000 in
theorem ggX6_time_X6_lapNumbered : GoodIn wsX6_time wsX6_lapNumbered := goodIn_ca (goodIn_r _ [6, 7, 8, 9, 10, 11, 12, 13, 14, 15, 16, 37, 38, 39, 40, 41, 42, 43, 44, 45, 46, 47] (by decide +kernel) (by decide +kernel)) (goodIn_sub (fun _ h => List.mem_cons_of_mem _ (List.mem_append_right _ h)) (by decide +kernel))
set_option maxRecDepth 20000 in
theorem gX6_time_X6_lapNumbered : GoodIn wsX6_time (wsV RX6 194 RX6 yX6_lapNumbered wsX6_lapNumbered) := goodIn_app (goodIn_of _ (by decide +kernel)) ggX6_time_X6_lapNumbered
set_option maxRecDepth 20000 in
theorem ggX6_time_X2_counted : GoodIn wsX6_time wsX2_counted := goodIn_r _ [21, 22, 23, 24, 25, 26, 27, 28, 29, 30, 31, 32, 33, 34, 35, 36] (by decide +kernel) (by decide +kernel)
set_option maxRecDepth 20000 in
theorem gX6_time_X2_counted : GoodIn wsX6_time (wsV RX6 198 RX2 yX2_counted wsX2_counted) := goodIn_app (goodIn_of _ (by decide +kernel)) ggX6_time_X2_counted
set_option maxRecDepth 20000 in
theorem ggX6_ticks_X6_lapNumbered : GoodIn wsX6_ticks wsX6_lapNumbered := goodIn_ca (goodIn_r _ [6, 7, 8, 9, 10, 11, 12, 13, 14, 15, 16, 30, 31, 32, 33, 34, 35, 36, 37, 38, 39, 40] (by decide +kernel) (by decide +kernel)) (goodIn_sub (fun _ h => List.mem_cons_of_mem _ (List.mem_append_right _ h)) (by decide +kernel))
set_option maxRecDepth 20000 in
theorem gX6_ticks_X6_lapNumbered : GoodIn wsX6_ticks (wsV RX6 194 RX6 yX6_lapNumbered wsX6_lapNumbered) := goodIn_app (goodIn_of _ (by decide +kernel)) ggX6_ticks_X6_lapNumbered
set_option maxRecDepth 20000 in
theorem ggX6_inputAt_X6_lapNumbered : GoodIn wsX6_inputAt wsX6_lapNumbered := goodIn_ca (goodIn_r _ [9, 10, 11, 12, 13, 14, 15, 16, 17, 18, 19, 33, 34, 35, 36, 37, 38, 39, 40, 41, 42, 43] (by decide +kernel) (by decide +kernel)) (goodIn_sub (fun _ h => List.mem_cons_of_mem _ (List.mem_append_right _ h)) (by decide +kernel))
set_option maxRecDepth 20000 in
theorem gX6_inputAt_X6_lapNumbered : GoodIn wsX6_inputAt (wsV RX6 194 RX6 yX6_lapNumbered wsX6_lapNumbered) := goodIn_app (goodIn_of _ (by decide +kernel)) ggX6_inputAt_X6_lapNumbered
set_option maxRecDepth 20000 in
theorem ggX6_replay_X6_lapNumbered : GoodIn wsX6_replay wsX6_lapNumbered := goodIn_ca (goodIn_r _ [11, 12, 13, 14, 15, 16, 17, 18, 19, 20, 21, 96, 97, 98, 99, 100, 101, 102, 103, 104, 110, 111] (by decide +kernel) (by decide +kernel)) (goodIn_sub (fun _ h => List.mem_cons_of_mem _ (List.mem_append_right _ h)) (by decide +kernel))
set_option maxRecDepth 20000 in
theorem gX6_replay_X6_lapNumbered : GoodIn wsX6_replay (wsV RX6 194 RX6 yX6_lapNumbered wsX6_lapNumbered) := goodIn_app (goodIn_of _ (by decide +kernel)) ggX6_replay_X6_lapNumbered
set_option maxRecDepth 20000 in
theorem ggX6_replay_X6_rideAgain : GoodIn wsX6_replay wsX6_rideAgain := goodIn_ca (goodIn_r _ [25, 4, 26, 27, 28, 29, 30, 31, 10, 32, 12, 13, 33, 34, 35, 36, 37, 38, 39, 40, 41, 42, 43, 44, 45, 46, 47, 48, 49, 50, 51, 52, 53, 54, 55, 56, 57, 58, 59, 60, 61, 62, 63, 64, 65, 66, 67, 68, 69, 70, 71, 72, 73, 74, 75, 76, 77, 78, 79, 80, 81, 82, 96, 97, 98, 99, 100, 101, 102, 103, 104, 83, 84, 85, 86, 87, 88, 89, 90, 91, 92, 93, 94, 95, 105, 106, 107, 108, 109, 112, 113, 114, 115, 116, 117, 118, 119] (by decide +kernel) (by decide +kernel)) (goodIn_sub (fun _ h => List.mem_cons_of_mem _ (List.mem_append_right _ h)) (by decide +kernel))
set_option maxRecDepth 20000 in
theorem gX6_replay_X6_rideAgain : GoodIn wsX6_replay (wsV RX6 213 RX6 yX6_rideAgain wsX6_rideAgain) := goodIn_app (goodIn_of _ (by decide +kernel)) ggX6_replay_X6_rideAgain
set_option maxRecDepth 20000 in
theorem ggX6_of_X6_lapNumbered : GoodIn wsX6_of wsX6_lapNumbered := goodIn_ca (goodIn_r _ [12, 13, 14, 15, 16, 17, 18, 19, 20, 21, 22, 36, 37, 38, 39, 40, 41, 42, 43, 44, 45, 46] (by decide +kernel) (by decide +kernel)) (goodIn_sub (fun _ h => List.mem_cons_of_mem _ (List.mem_append_right _ h)) (by decide +kernel))
set_option maxRecDepth 20000 in
theorem gX6_of_X6_lapNumbered : GoodIn wsX6_of (wsV RX6 194 RX6 yX6_lapNumbered wsX6_lapNumbered) := goodIn_app (goodIn_of _ (by decide +kernel)) ggX6_of_X6_lapNumbered
set_option maxRecDepth 20000 in
theorem ggX6_beats_X6_lapNumbered : GoodIn wsX6_beats wsX6_lapNumbered := goodIn_ca (goodIn_r _ [10, 11, 12, 3, 5, 13, 14, 15, 16, 17, 18, 26, 27, 28, 29, 30, 31, 32, 33, 34, 48, 49] (by decide +kernel) (by decide +kernel)) (goodIn_sub (fun _ h => List.mem_cons_of_mem _ (List.mem_append_right _ h)) (by decide +kernel))
set_option maxRecDepth 20000 in
theorem gX6_beats_X6_lapNumbered : GoodIn wsX6_beats (wsV RX6 194 RX6 yX6_lapNumbered wsX6_lapNumbered) := goodIn_app (goodIn_of _ (by decide +kernel)) ggX6_beats_X6_lapNumbered
set_option maxRecDepth 20000 in
theorem ggX6_beats_X0_has : GoodIn wsX6_beats wsX0_has := goodIn_r _ [17, 18, 48, 49] (by decide +kernel) (by decide +kernel)
set_option maxRecDepth 20000 in
theorem gX6_beats_X0_has : GoodIn wsX6_beats (wsV RX6 225 RX0 yX0_has wsX0_has) := goodIn_app (goodIn_of _ (by decide +kernel)) ggX6_beats_X0_has
set_option maxRecDepth 20000 in
theorem ggX6_beats_X2_counted : GoodIn wsX6_beats wsX2_counted := goodIn_r _ [23, 24, 25, 35, 36, 37, 38, 39, 40, 41, 42, 43, 44, 45, 46, 47] (by decide +kernel) (by decide +kernel)
set_option maxRecDepth 20000 in
theorem gX6_beats_X2_counted : GoodIn wsX6_beats (wsV RX6 198 RX2 yX2_counted wsX2_counted) := goodIn_app (goodIn_of _ (by decide +kernel)) ggX6_beats_X2_counted
set_option maxRecDepth 20000 in
theorem ggX6_least_X6_trackNumbered : GoodIn wsX6_least wsX6_trackNumbered := goodIn_ca (goodIn_r _ [8, 9, 10, 11, 12, 37, 38, 39, 40, 41, 42, 43, 44, 45] (by decide +kernel) (by decide +kernel)) (goodIn_sub (fun _ h => List.mem_cons_of_mem _ (List.mem_append_right _ h)) (by decide +kernel))
set_option maxRecDepth 20000 in
theorem gX6_least_X6_trackNumbered : GoodIn wsX6_least (wsV RX6 59 RX6 yX6_trackNumbered wsX6_trackNumbered) := goodIn_app (goodIn_of _ (by decide +kernel)) ggX6_least_X6_trackNumbered
set_option maxRecDepth 20000 in
theorem ggX6_least_X0_leastOn : GoodIn wsX6_least wsX0_leastOn := goodIn_r _ [17, 18, 19, 20, 21, 22, 23, 24, 16, 25, 26, 27, 28, 29, 30, 31, 32, 33, 34, 35, 36, 46, 47, 48, 49, 50, 51, 52, 53, 54, 55, 56, 57, 58, 59, 60] (by decide +kernel) (by decide +kernel)
set_option maxRecDepth 20000 in
theorem gX6_least_X0_leastOn : GoodIn wsX6_least (wsV RX6 231 RX0 yX0_leastOn wsX0_leastOn) := goodIn_app (goodIn_of _ (by decide +kernel)) ggX6_least_X0_leastOn
set_option maxRecDepth 20000 in
theorem ggX6_base_X6_lapNumbered : GoodIn wsX6_base wsX6_lapNumbered := goodIn_ca (goodIn_r _ [8, 9, 10, 11, 12, 13, 14, 15, 16, 17, 18, 32, 33, 34, 35, 36, 37, 38, 39, 40, 41, 42] (by decide +kernel) (by decide +kernel)) (goodIn_sub (fun _ h => List.mem_cons_of_mem _ (List.mem_append_right _ h)) (by decide +kernel))
set_option maxRecDepth 20000 in
theorem gX6_base_X6_lapNumbered : GoodIn wsX6_base (wsV RX6 194 RX6 yX6_lapNumbered wsX6_lapNumbered) := goodIn_app (goodIn_of _ (by decide +kernel)) ggX6_base_X6_lapNumbered
set_option maxRecDepth 20000 in
theorem ggX6_depth_X6_lapNumbered : GoodIn wsX6_depth wsX6_lapNumbered := goodIn_ca (goodIn_r _ [6, 7, 8, 9, 10, 11, 12, 13, 14, 15, 16, 30, 31, 32, 33, 34, 35, 36, 37, 38, 39, 40] (by decide +kernel) (by decide +kernel)) (goodIn_sub (fun _ h => List.mem_cons_of_mem _ (List.mem_append_right _ h)) (by decide +kernel))
set_option maxRecDepth 20000 in
theorem gX6_depth_X6_lapNumbered : GoodIn wsX6_depth (wsV RX6 194 RX6 yX6_lapNumbered wsX6_lapNumbered) := goodIn_app (goodIn_of _ (by decide +kernel)) ggX6_depth_X6_lapNumbered
set_option maxRecDepth 20000 in
theorem ggX6_parts_X6_lapNumbered : GoodIn wsX6_parts wsX6_lapNumbered := goodIn_ca (goodIn_r _ [6, 7, 8, 9, 10, 11, 12, 13, 14, 15, 16, 30, 31, 32, 33, 34, 35, 36, 37, 38, 39, 40] (by decide +kernel) (by decide +kernel)) (goodIn_sub (fun _ h => List.mem_cons_of_mem _ (List.mem_append_right _ h)) (by decide +kernel))
set_option maxRecDepth 20000 in
theorem gX6_parts_X6_lapNumbered : GoodIn wsX6_parts (wsV RX6 194 RX6 yX6_lapNumbered wsX6_lapNumbered) := goodIn_app (goodIn_of _ (by decide +kernel)) ggX6_parts_X6_lapNumbered
set_option maxRecDepth 20000 in
theorem ggX6_resting_X6_lapNumbered : GoodIn wsX6_resting wsX6_lapNumbered := goodIn_ca (goodIn_r _ [6, 7, 8, 1, 9, 10, 11, 12, 13, 14, 15, 27, 28, 29, 30, 31, 32, 33, 34, 35, 36, 37] (by decide +kernel) (by decide +kernel)) (goodIn_sub (fun _ h => List.mem_cons_of_mem _ (List.mem_append_right _ h)) (by decide +kernel))
set_option maxRecDepth 20000 in
theorem gX6_resting_X6_lapNumbered : GoodIn wsX6_resting (wsV RX6 194 RX6 yX6_lapNumbered wsX6_lapNumbered) := goodIn_app (goodIn_of _ (by decide +kernel)) ggX6_resting_X6_lapNumbered
set_option maxRecDepth 20000 in
theorem ggX6_resting_X0_countResting : GoodIn wsX6_resting wsX0_countResting := goodIn_r _ [19, 15, 20, 21, 22, 13, 23, 24, 25, 26, 11, 12, 14, 36, 37, 38, 39, 40, 41, 42, 43, 44, 45, 46, 47, 48, 49, 50] (by decide +kernel) (by decide +kernel)
set_option maxRecDepth 20000 in
theorem gX6_resting_X0_countResting : GoodIn wsX6_resting (wsV RX6 247 RX0 yX0_countResting wsX0_countResting) := goodIn_app (goodIn_of _ (by decide +kernel)) ggX6_resting_X0_countResting
set_option maxRecDepth 20000 in
theorem ggX6_strike_X6_lapNumbered : GoodIn wsX6_strike wsX6_lapNumbered := goodIn_ca (goodIn_r _ [10, 11, 12, 4, 13, 14, 15, 16, 17, 18, 19, 58, 59, 60, 61, 62, 63, 64, 65, 66, 67, 68] (by decide +kernel) (by decide +kernel)) (goodIn_sub (fun _ h => List.mem_cons_of_mem _ (List.mem_append_right _ h)) (by decide +kernel))
set_option maxRecDepth 20000 in
theorem gX6_strike_X6_lapNumbered : GoodIn wsX6_strike (wsV RX6 194 RX6 yX6_lapNumbered wsX6_lapNumbered) := goodIn_app (goodIn_of _ (by decide +kernel)) ggX6_strike_X6_lapNumbered
set_option maxRecDepth 20000 in
theorem ggX6_strike_X0_moveFrom : GoodIn wsX6_strike wsX0_moveFrom := goodIn_r _ [23, 19, 24, 25, 26, 27, 28, 17, 29, 30, 31, 32, 15, 16, 18, 33, 34, 35, 36, 37, 38, 39, 40, 41, 42, 43, 44, 67, 68, 45, 46, 47, 48, 49, 50, 51, 52, 53, 54, 55, 56, 57] (by decide +kernel) (by decide +kernel)
set_option maxRecDepth 20000 in
theorem gX6_strike_X0_moveFrom : GoodIn wsX6_strike (wsV RX6 255 RX0 yX0_moveFrom wsX0_moveFrom) := goodIn_app (goodIn_of _ (by decide +kernel)) ggX6_strike_X0_moveFrom
set_option maxRecDepth 20000 in
theorem ggX6_giveBack_X6_lapNumbered : GoodIn wsX6_giveBack wsX6_lapNumbered := goodIn_ca (goodIn_r _ [9, 10, 11, 4, 12, 13, 14, 15, 16, 17, 18, 38, 39, 40, 41, 42, 43, 44, 45, 46, 47, 48] (by decide +kernel) (by decide +kernel)) (goodIn_sub (fun _ h => List.mem_cons_of_mem _ (List.mem_append_right _ h)) (by decide +kernel))
set_option maxRecDepth 20000 in
theorem gX6_giveBack_X6_lapNumbered : GoodIn wsX6_giveBack (wsV RX6 194 RX6 yX6_lapNumbered wsX6_lapNumbered) := goodIn_app (goodIn_of _ (by decide +kernel)) ggX6_giveBack_X6_lapNumbered
set_option maxRecDepth 20000 in
theorem ggX6_giveBack_X0_countStanding : GoodIn wsX6_giveBack wsX0_countStanding := goodIn_r _ [22, 18, 23, 24, 47, 48, 25, 26, 27, 28, 29, 30, 31, 32, 33, 34, 35, 36, 37] (by decide +kernel) (by decide +kernel)
set_option maxRecDepth 20000 in
theorem gX6_giveBack_X0_countStanding : GoodIn wsX6_giveBack (wsV RX6 261 RX0 yX0_countStanding wsX0_countStanding) := goodIn_app (goodIn_of _ (by decide +kernel)) ggX6_giveBack_X0_countStanding
set_option maxRecDepth 20000 in
theorem ggX6_stands_X6_lapNumbered : GoodIn wsX6_stands wsX6_lapNumbered := goodIn_ca (goodIn_r _ [6, 7, 8, 9, 10, 11, 12, 13, 14, 15, 16, 30, 31, 32, 33, 34, 35, 36, 37, 38, 39, 40] (by decide +kernel) (by decide +kernel)) (goodIn_sub (fun _ h => List.mem_cons_of_mem _ (List.mem_append_right _ h)) (by decide +kernel))
set_option maxRecDepth 20000 in
theorem gX6_stands_X6_lapNumbered : GoodIn wsX6_stands (wsV RX6 194 RX6 yX6_lapNumbered wsX6_lapNumbered) := goodIn_app (goodIn_of _ (by decide +kernel)) ggX6_stands_X6_lapNumbered
set_option maxRecDepth 20000 in
theorem ggX6_penalty_X6_lapNumbered : GoodIn wsX6_penalty wsX6_lapNumbered := goodIn_ca (goodIn_r _ [8, 9, 10, 11, 12, 13, 14, 15, 16, 17, 18, 35, 36, 37, 38, 39, 40, 41, 42, 43, 44, 45] (by decide +kernel) (by decide +kernel)) (goodIn_sub (fun _ h => List.mem_cons_of_mem _ (List.mem_append_right _ h)) (by decide +kernel))
set_option maxRecDepth 20000 in
theorem gX6_penalty_X6_lapNumbered : GoodIn wsX6_penalty (wsV RX6 194 RX6 yX6_lapNumbered wsX6_lapNumbered) := goodIn_app (goodIn_of _ (by decide +kernel)) ggX6_penalty_X6_lapNumbered
set_option maxRecDepth 20000 in
theorem ggX6_penalty_X6_isWithin : GoodIn wsX6_penalty wsX6_isWithin := goodIn_r _ [21] (by decide +kernel) (by decide +kernel)
set_option maxRecDepth 20000 in
theorem gX6_penalty_X6_isWithin : GoodIn wsX6_penalty (va_wsS RX6 63 yX6_isWithin wsX6_isWithin) := goodIn_app (goodIn_of _ (by decide +kernel)) ggX6_penalty_X6_isWithin
set_option maxRecDepth 20000 in
theorem ggX6_round_X6_trackNumbered : GoodIn wsX6_round wsX6_trackNumbered := goodIn_ca (goodIn_r _ [10, 11, 12, 13, 14, 23, 24, 25, 26, 27, 28, 29, 30, 31] (by decide +kernel) (by decide +kernel)) (goodIn_sub (fun _ h => List.mem_cons_of_mem _ (List.mem_append_right _ h)) (by decide +kernel))
set_option maxRecDepth 20000 in
theorem gX6_round_X6_trackNumbered : GoodIn wsX6_round (wsV RX6 59 RX6 yX6_trackNumbered wsX6_trackNumbered) := goodIn_app (goodIn_of _ (by decide +kernel)) ggX6_round_X6_trackNumbered
set_option maxRecDepth 20000 in
theorem ggX6_round_X4_openOn : GoodIn wsX6_round wsX4_openOn := goodIn_r _ [19, 20, 21, 22, 32, 33, 34, 35, 36, 37, 38, 39] (by decide +kernel) (by decide +kernel)
set_option maxRecDepth 20000 in
theorem gX6_round_X4_openOn : GoodIn wsX6_round (wsV RX6 274 RX4 yX4_openOn wsX4_openOn) := goodIn_app (goodIn_of _ (by decide +kernel)) ggX6_round_X4_openOn
set_option maxRecDepth 20000 in
theorem ggX6_lapIn_X6_findLap : GoodIn wsX6_lapIn wsX6_findLap := goodIn_ca (goodIn_ca (goodIn_r _ [5, 6, 7, 8, 9, 10, 11, 12, 13, 14, 15, 16, 4, 17, 18, 19, 20, 21, 22, 23, 24, 25, 26, 27, 28, 29, 30, 31, 32, 33, 34, 35, 36, 37, 38, 39, 40, 41, 42, 43, 44, 45, 46, 47, 48, 49, 50, 51, 52, 53, 54, 55, 56, 57, 58, 59, 60, 61, 62, 63, 64, 65, 66, 67, 68, 69, 70, 71, 72, 73, 74, 75, 76, 77, 78] (by decide +kernel) (by decide +kernel)) (goodIn_sub (fun _ h => List.mem_cons_of_mem _ (List.mem_append_left _ (List.mem_append_right _ h))) (by decide +kernel))) (goodIn_sub (fun _ h => List.mem_cons_of_mem _ (List.mem_append_right _ h)) (by decide +kernel))
set_option maxRecDepth 20000 in
theorem gX6_lapIn_X6_findLap : GoodIn wsX6_lapIn (wsV RX6 282 RX6 yX6_findLap wsX6_findLap) := goodIn_app (goodIn_of _ (by decide +kernel)) ggX6_lapIn_X6_findLap
set_option maxRecDepth 20000 in
theorem ggX6_placeIn_X6_findLap : GoodIn wsX6_placeIn wsX6_findLap := goodIn_ca (goodIn_ca (goodIn_r _ [7, 8, 9, 10, 11, 1, 12, 2, 13, 14, 15, 16, 6, 17, 18, 19, 20, 21, 22, 23, 24, 25, 26, 27, 28, 29, 30, 31, 32, 33, 34, 35, 36, 37, 38, 39, 40, 41, 42, 43, 44, 45, 46, 51, 52, 53, 54, 55, 56, 57, 58, 59, 60, 61, 62, 63, 64, 65, 66, 67, 68, 69, 70, 71, 72, 73, 74, 75, 76, 77, 78, 79, 80, 81, 82] (by decide +kernel) (by decide +kernel)) (goodIn_sub (fun _ h => List.mem_cons_of_mem _ (List.mem_append_left _ (List.mem_append_right _ h))) (by decide +kernel))) (goodIn_sub (fun _ h => List.mem_cons_of_mem _ (List.mem_append_right _ h)) (by decide +kernel))
set_option maxRecDepth 20000 in
theorem gX6_placeIn_X6_findLap : GoodIn wsX6_placeIn (wsV RX6 282 RX6 yX6_findLap wsX6_findLap) := goodIn_app (goodIn_of _ (by decide +kernel)) ggX6_placeIn_X6_findLap
set_option maxRecDepth 20000 in
theorem ggX6_placeIn_X4_lapsAhead : GoodIn wsX6_placeIn wsX4_lapsAhead := goodIn_r _ [50, 23, 29, 30, 31, 32, 33, 34, 35, 36, 37, 38, 39, 40, 41, 42, 43, 44, 45, 46, 60, 61, 62, 63, 64, 65, 66, 67, 68, 69, 70, 71, 72, 73, 74, 75, 76, 77, 78, 79, 80, 81, 82] (by decide +kernel) (by decide +kernel)
set_option maxRecDepth 20000 in
theorem gX6_placeIn_X4_lapsAhead : GoodIn wsX6_placeIn (wsV RX6 285 RX4 yX4_lapsAhead wsX4_lapsAhead) := goodIn_app (goodIn_of _ (by decide +kernel)) ggX6_placeIn_X4_lapsAhead
set_option maxRecDepth 20000 in
theorem ggX6_findLap_X6_requireDriver : GoodIn wsX6_findLap wsX6_requireDriver := goodIn_ca (goodIn_r _ [13, 1, 2] (by decide +kernel) (by decide +kernel)) (goodIn_sub (fun _ h => List.mem_cons_of_mem _ (List.mem_append_left _ (List.mem_append_right _ h))) (by decide +kernel))
set_option maxRecDepth 20000 in
theorem gX6_findLap_X6_requireDriver : GoodIn wsX6_findLap (wsV RX6 125 RX6 yX6_requireDriver wsX6_requireDriver) := goodIn_app (goodIn_of _ (by decide +kernel)) ggX6_findLap_X6_requireDriver
set_option maxRecDepth 20000 in
theorem ggX6_findLap_X4_findLaps : GoodIn wsX6_findLap wsX4_findLaps := goodIn_r _ [18, 19, 20, 21, 22, 23, 24, 25, 26, 27, 28, 29, 30, 31, 32, 33, 34, 35, 36, 37, 38, 39, 40, 41, 42, 52, 53, 54, 55, 56, 57, 58, 59, 60, 61, 62, 63, 64, 65, 66, 67, 68, 69, 70, 71, 72, 73, 74] (by decide +kernel) (by decide +kernel)
set_option maxRecDepth 20000 in
theorem gX6_findLap_X4_findLaps : GoodIn wsX6_findLap (wsV RX6 294 RX4 yX4_findLaps wsX4_findLaps) := goodIn_app (goodIn_of _ (by decide +kernel)) ggX6_findLap_X4_findLaps
set_option maxRecDepth 20000 in
theorem ggX6_drop_X6_isWithin : GoodIn wsX6_drop wsX6_isWithin := goodIn_r _ [8] (by decide +kernel) (by decide +kernel)
set_option maxRecDepth 20000 in
theorem gX6_drop_X6_isWithin : GoodIn wsX6_drop (va_wsS RX6 63 yX6_isWithin wsX6_isWithin) := goodIn_app (goodIn_of _ (by decide +kernel)) ggX6_drop_X6_isWithin
set_option maxRecDepth 20000 in
theorem ggX6_points_X6_requireDriver : GoodIn wsX6_points wsX6_requireDriver := goodIn_ca (goodIn_r _ [8, 9, 10] (by decide +kernel) (by decide +kernel)) (goodIn_sub (fun _ h => List.mem_cons_of_mem _ (List.mem_append_right _ h)) (by decide +kernel))
set_option maxRecDepth 20000 in
theorem gX6_points_X6_requireDriver : GoodIn wsX6_points (wsV RX6 125 RX6 yX6_requireDriver wsX6_requireDriver) := goodIn_app (goodIn_of _ (by decide +kernel)) ggX6_points_X6_requireDriver
set_option maxRecDepth 20000 in
theorem ggX6_points_X4_reckon : GoodIn wsX6_points wsX4_reckon := goodIn_r _ [15, 16, 17, 18, 19, 20, 21, 22, 14, 23, 24, 25, 26, 27, 28, 29, 30, 31, 32, 33, 34, 35, 36, 37, 38, 39, 40, 41, 42, 43, 44, 45, 46, 47, 48, 49, 50, 51, 52, 53, 54, 55, 56, 57, 58, 59, 60, 70, 71, 72, 73, 74, 75, 76, 77, 78, 79, 80, 81, 82, 83, 84, 85, 86, 87, 88, 89, 90, 91, 92] (by decide +kernel) (by decide +kernel)
set_option maxRecDepth 20000 in
theorem gX6_points_X4_reckon : GoodIn wsX6_points (wsV RX6 309 RX4 yX4_reckon wsX4_reckon) := goodIn_app (goodIn_of _ (by decide +kernel)) ggX6_points_X4_reckon
set_option maxRecDepth 20000 in
theorem ggX6_wins_X6_requireDriver : GoodIn wsX6_wins wsX6_requireDriver := goodIn_ca (goodIn_r _ [8, 9, 10] (by decide +kernel) (by decide +kernel)) (goodIn_sub (fun _ h => List.mem_cons_of_mem _ (List.mem_append_right _ h)) (by decide +kernel))
set_option maxRecDepth 20000 in
theorem gX6_wins_X6_requireDriver : GoodIn wsX6_wins (wsV RX6 125 RX6 yX6_requireDriver wsX6_requireDriver) := goodIn_app (goodIn_of _ (by decide +kernel)) ggX6_wins_X6_requireDriver
set_option maxRecDepth 20000 in
theorem ggX6_wins_X4_reckon : GoodIn wsX6_wins wsX4_reckon := goodIn_r _ [15, 16, 17, 18, 19, 20, 21, 22, 14, 23, 24, 25, 26, 27, 28, 29, 30, 31, 32, 33, 34, 35, 36, 37, 38, 39, 40, 41, 42, 43, 44, 45, 46, 47, 48, 49, 50, 51, 52, 53, 54, 55, 56, 57, 58, 59, 60, 70, 71, 72, 73, 74, 75, 76, 77, 78, 79, 80, 81, 82, 83, 84, 85, 86, 87, 88, 89, 90, 91, 92] (by decide +kernel) (by decide +kernel)
set_option maxRecDepth 20000 in
theorem gX6_wins_X4_reckon : GoodIn wsX6_wins (wsV RX6 309 RX4 yX4_reckon wsX4_reckon) := goodIn_app (goodIn_of _ (by decide +kernel)) ggX6_wins_X4_reckon
set_option maxRecDepth 20000 in
theorem ggX6_standing_X4_reckon : GoodIn wsX6_standing wsX4_reckon := goodIn_r _ [9, 10, 11, 12, 13, 14, 15, 16, 8, 17, 18, 19, 20, 21, 22, 23, 24, 25, 26, 27, 28, 29, 30, 31, 32, 33, 34, 35, 36, 37, 38, 39, 40, 41, 42, 43, 44, 45, 46, 47, 48, 49, 50, 51, 52, 53, 54, 72, 73, 74, 75, 76, 77, 78, 79, 80, 81, 82, 83, 84, 85, 86, 87, 88, 89, 90, 91, 92, 93, 94] (by decide +kernel) (by decide +kernel)
set_option maxRecDepth 20000 in
theorem gX6_standing_X4_reckon : GoodIn wsX6_standing (wsV RX6 309 RX4 yX4_reckon wsX4_reckon) := goodIn_app (goodIn_of _ (by decide +kernel)) ggX6_standing_X4_reckon
set_option maxRecDepth 20000 in
theorem ggX6_standing_X4_driverBehind : GoodIn wsX6_standing wsX4_driverBehind := goodIn_r _ [58, 59, 60, 61, 8, 62, 10, 11, 72, 73, 74, 75, 76, 77, 78, 79] (by decide +kernel) (by decide +kernel)
set_option maxRecDepth 20000 in
theorem gX6_standing_X4_driverBehind : GoodIn wsX6_standing (wsV RX6 319 RX4 yX4_driverBehind wsX4_driverBehind) := goodIn_app (goodIn_of _ (by decide +kernel)) ggX6_standing_X4_driverBehind
set_option maxRecDepth 20000 in
theorem ggX6_shareStored_X6_stored : GoodIn wsX6_shareStored wsX6_stored := goodIn_r _ [11, 3, 4, 5, 12, 13, 14, 15, 16, 17, 18, 19, 20, 21, 22, 23, 24, 25, 26, 27, 28, 29, 30, 31, 32, 33, 34, 35, 36] (by decide +kernel) (by decide +kernel)
set_option maxRecDepth 20000 in
theorem gX6_shareStored_X6_stored : GoodIn wsX6_shareStored (wsV RX6 328 RX6 yX6_stored wsX6_stored) := goodIn_app (goodIn_of _ (by decide +kernel)) ggX6_shareStored_X6_stored
set_option maxRecDepth 20000 in
theorem ggX6_meanTime_X0_countStanding : GoodIn wsX6_meanTime wsX0_countStanding := goodIn_r _ [11, 12, 13, 14, 31, 32, 33, 34, 35, 36, 37, 38, 39, 40, 41, 42, 43, 44, 45] (by decide +kernel) (by decide +kernel)
set_option maxRecDepth 20000 in
theorem gX6_meanTime_X0_countStanding : GoodIn wsX6_meanTime (wsV RX6 261 RX0 yX0_countStanding wsX0_countStanding) := goodIn_app (goodIn_of _ (by decide +kernel)) ggX6_meanTime_X0_countStanding
set_option maxRecDepth 20000 in
theorem ggX6_meanTime_X2_counted : GoodIn wsX6_meanTime wsX2_counted := goodIn_r _ [19, 20, 21, 33, 34, 35, 36, 37, 38, 39, 40, 41, 42, 43, 44, 45] (by decide +kernel) (by decide +kernel)
set_option maxRecDepth 20000 in
theorem gX6_meanTime_X2_counted : GoodIn wsX6_meanTime (wsV RX6 198 RX2 yX2_counted wsX2_counted) := goodIn_app (goodIn_of _ (by decide +kernel)) ggX6_meanTime_X2_counted
set_option maxRecDepth 20000 in
theorem ggX6_isSound_X6_rideAgain : GoodIn wsX6_isSound wsX6_rideAgain := goodIn_ca (goodIn_r _ [16, 5, 17, 18, 19, 20, 21, 22, 15, 23, 24, 25, 26, 27, 28, 29, 30, 31, 32, 33, 34, 35, 36, 37, 38, 39, 40, 41, 42, 43, 44, 45, 46, 47, 48, 49, 50, 51, 52, 53, 54, 55, 56, 57, 58, 59, 60, 61, 62, 63, 64, 65, 66, 67, 68, 69, 70, 71, 72, 73, 74, 75, 82, 83, 84, 85, 86, 87, 88, 89, 90, 93, 94, 95, 96, 97, 98, 99, 100, 101, 102, 103, 104, 105, 106, 107, 108, 109, 110, 111, 112, 113, 114, 115, 116, 117, 118] (by decide +kernel) (by decide +kernel)) (goodIn_sub (fun _ h => List.mem_cons_of_mem _ (List.mem_append_right _ h)) (by decide +kernel))
set_option maxRecDepth 20000 in
theorem gX6_isSound_X6_rideAgain : GoodIn wsX6_isSound (wsV RX6 213 RX6 yX6_rideAgain wsX6_rideAgain) := goodIn_app (goodIn_of _ (by decide +kernel)) ggX6_isSound_X6_rideAgain
set_option maxRecDepth 20000 in
theorem ggX6_isSound_X0_has : GoodIn wsX6_isSound wsX0_has := goodIn_r _ [80, 81, 91, 92] (by decide +kernel) (by decide +kernel)
set_option maxRecDepth 20000 in
theorem gX6_isSound_X0_has : GoodIn wsX6_isSound (wsV RX6 225 RX0 yX0_has wsX0_has) := goodIn_app (goodIn_of _ (by decide +kernel)) ggX6_isSound_X0_has
set_option maxRecDepth 20000 in
theorem ggX6_rideAgain_X6_trackNumbered : GoodIn wsX6_rideAgain wsX6_trackNumbered := goodIn_ca (goodIn_r _ [9, 10, 11, 12, 13, 62, 63, 64, 65, 66, 67, 68, 69, 70] (by decide +kernel) (by decide +kernel)) (goodIn_sub (fun _ h => List.mem_cons_of_mem _ (List.mem_append_right _ h)) (by decide +kernel))
set_option maxRecDepth 20000 in
theorem gX6_rideAgain_X6_trackNumbered : GoodIn wsX6_rideAgain (wsV RX6 59 RX6 yX6_trackNumbered wsX6_trackNumbered) := goodIn_app (goodIn_of _ (by decide +kernel)) ggX6_rideAgain_X6_trackNumbered
set_option maxRecDepth 20000 in
theorem ggX6_rideAgain_X6_carNumbered : GoodIn wsX6_rideAgain wsX6_carNumbered := goodIn_ca (goodIn_r _ [17, 10, 11, 18, 19, 62, 63, 64, 65, 66, 67, 68, 69, 70] (by decide +kernel) (by decide +kernel)) (goodIn_sub (fun _ h => List.mem_cons_of_mem _ (List.mem_append_right _ h)) (by decide +kernel))
set_option maxRecDepth 20000 in
theorem gX6_rideAgain_X6_carNumbered : GoodIn wsX6_rideAgain (wsV RX6 129 RX6 yX6_carNumbered wsX6_carNumbered) := goodIn_app (goodIn_of _ (by decide +kernel)) ggX6_rideAgain_X6_carNumbered
set_option maxRecDepth 20000 in
theorem ggX6_rideAgain_X3_follow : GoodIn wsX6_rideAgain wsX3_follow := goodIn_r _ [24, 25, 26, 27, 28, 29, 30, 31, 32, 23, 33, 34, 35, 36, 37, 38, 39, 40, 41, 42, 43, 44, 45, 46, 47, 48, 49, 50, 51, 52, 53, 54, 55, 56, 57, 58, 59, 60, 61, 84, 85, 86, 87, 88, 89, 90, 91, 92, 93, 94, 95, 96] (by decide +kernel) (by decide +kernel)
set_option maxRecDepth 20000 in
theorem gX6_rideAgain_X3_follow : GoodIn wsX6_rideAgain (wsV RX6 185 RX3 yX3_follow wsX3_follow) := goodIn_app (goodIn_of _ (by decide +kernel)) ggX6_rideAgain_X3_follow
set_option maxRecDepth 20000 in
theorem ggX6_lapNumbered_X0_has : GoodIn wsX6_lapNumbered wsX0_has := goodIn_r _ [9, 10, 20, 21] (by decide +kernel) (by decide +kernel)
set_option maxRecDepth 20000 in
theorem gX6_lapNumbered_X0_has : GoodIn wsX6_lapNumbered (wsV RX6 225 RX0 yX0_has wsX0_has) := goodIn_app (goodIn_of _ (by decide +kernel)) ggX6_lapNumbered_X0_has
