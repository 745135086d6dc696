set_option maxRecDepth 20000 in
theorem ggX7_isNoTrack_X7_in : GoodIn wsX7_isNoTrack wsX7_in := goodIn_r _ [5] (by decide +kernel) (by decide +kernel)
set_option maxRecDepth 20000 in
theorem gX7_isNoTrack_X7_in : GoodIn wsX7_isNoTrack (va_wsS RX7 79 yX7_in wsX7_in) := goodIn_app (goodIn_of _ (by decide +kernel)) ggX7_isNoTrack_X7_in
set_option maxRecDepth 20000 in
theorem ggX7_isNoCar_X7_in : GoodIn wsX7_isNoCar wsX7_in := goodIn_r _ [5] (by decide +kernel) (by decide +kernel)
set_option maxRecDepth 20000 in
theorem gX7_isNoCar_X7_in : GoodIn wsX7_isNoCar (va_wsS RX7 79 yX7_in wsX7_in) := goodIn_app (goodIn_of _ (by decide +kernel)) ggX7_isNoCar_X7_in
set_option maxRecDepth 20000 in
theorem ggX7_isNoLap_X7_in : GoodIn wsX7_isNoLap wsX7_in := goodIn_r _ [5] (by decide +kernel) (by decide +kernel)
set_option maxRecDepth 20000 in
theorem gX7_isNoLap_X7_in : GoodIn wsX7_isNoLap (va_wsS RX7 79 yX7_in wsX7_in) := goodIn_app (goodIn_of _ (by decide +kernel)) ggX7_isNoLap_X7_in
set_option maxRecDepth 20000 in
theorem ggX7_track_X7_fails : GoodIn wsX7_track wsX7_fails := goodIn_r _ [6, 7, 8, 9, 10, 11, 12, 13, 14, 15, 16, 17, 18, 19, 20, 21, 22, 23, 24, 25, 26, 27, 28, 29, 30, 31, 32, 33, 34, 35, 36, 37, 38, 39] (by decide +kernel) (by decide +kernel)
set_option maxRecDepth 20000 in
theorem gX7_track_X7_fails : GoodIn wsX7_track (wsV RX7 89 RX7 yX7_fails wsX7_fails) := goodIn_app (goodIn_of _ (by decide +kernel)) ggX7_track_X7_fails
set_option maxRecDepth 20000 in
theorem ggX7_stretch_X7_isNoTrack : GoodIn wsX7_stretch wsX7_isNoTrack := goodIn_r _ [10, 11, 12, 13, 9, 14, 24, 25, 26, 27, 28, 29, 30, 31, 32, 33, 34, 35, 36, 37, 38, 39, 40, 41, 42, 43, 44, 45, 46, 47, 48, 49, 50, 51, 52, 53, 54, 55] (by decide +kernel) (by decide +kernel)
set_option maxRecDepth 20000 in
theorem gX7_stretch_X7_isNoTrack : GoodIn wsX7_stretch (wsV RX7 93 RX7 yX7_isNoTrack wsX7_isNoTrack) := goodIn_app (goodIn_of _ (by decide +kernel)) ggX7_stretch_X7_isNoTrack
set_option maxRecDepth 20000 in
theorem ggX7_stretch_X7_in : GoodIn wsX7_stretch wsX7_in := goodIn_r _ [14] (by decide +kernel) (by decide +kernel)
set_option maxRecDepth 20000 in
theorem gX7_stretch_X7_in : GoodIn wsX7_stretch (va_wsS RX7 79 yX7_in wsX7_in) := goodIn_app (goodIn_of _ (by decide +kernel)) ggX7_stretch_X7_in
set_option maxRecDepth 20000 in
theorem ggX7_stretch_X7_fails : GoodIn wsX7_stretch wsX7_fails := goodIn_r _ [18, 19, 24, 25, 26, 27, 28, 29, 30, 31, 32, 33, 34, 35, 36, 37, 38, 39, 40, 41, 42, 43, 44, 45, 46, 47, 48, 49, 50, 51, 52, 53, 54, 55] (by decide +kernel) (by decide +kernel)
set_option maxRecDepth 20000 in
theorem gX7_stretch_X7_fails : GoodIn wsX7_stretch (wsV RX7 89 RX7 yX7_fails wsX7_fails) := goodIn_app (goodIn_of _ (by decide +kernel)) ggX7_stretch_X7_fails
set_option maxRecDepth 20000 in
theorem ggX7_stretch_X7_lengthNow : GoodIn wsX7_stretch wsX7_lengthNow := goodIn_r _ [23, 3, 4, 24, 25, 26, 27, 28, 29, 30, 31, 32, 33, 34, 35, 36, 37, 38, 39, 40, 41, 42, 43, 44, 45, 46, 47, 48, 49, 50, 51, 52, 53, 54, 55] (by decide +kernel) (by decide +kernel)
set_option maxRecDepth 20000 in
theorem gX7_stretch_X7_lengthNow : GoodIn wsX7_stretch (wsV RX7 96 RX7 yX7_lengthNow wsX7_lengthNow) := goodIn_app (goodIn_of _ (by decide +kernel)) ggX7_stretch_X7_lengthNow
set_option maxRecDepth 20000 in
theorem ggX7_car_X7_in : GoodIn wsX7_car wsX7_in := goodIn_r _ [8] (by decide +kernel) (by decide +kernel)
set_option maxRecDepth 20000 in
theorem gX7_car_X7_in : GoodIn wsX7_car (va_wsS RX7 79 yX7_in wsX7_in) := goodIn_app (goodIn_of _ (by decide +kernel)) ggX7_car_X7_in
set_option maxRecDepth 20000 in
theorem ggX7_car_X7_fails : GoodIn wsX7_car wsX7_fails := goodIn_r _ [12, 13, 14, 15, 16, 17, 18, 19, 20, 21, 22, 23, 24, 25, 26, 27, 28, 29, 30, 31, 32, 33, 34, 35, 36, 37, 38, 39, 40, 41, 42, 43, 44, 45] (by decide +kernel) (by decide +kernel)
set_option maxRecDepth 20000 in
theorem gX7_car_X7_fails : GoodIn wsX7_car (wsV RX7 89 RX7 yX7_fails wsX7_fails) := goodIn_app (goodIn_of _ (by decide +kernel)) ggX7_car_X7_fails
set_option maxRecDepth 20000 in
theorem ggX7_lengthOf_X7_isNoTrack : GoodIn wsX7_lengthOf wsX7_isNoTrack := goodIn_r _ [5, 6, 7, 8, 4, 9, 21, 22, 23, 24, 25, 26, 27, 28, 29, 30, 31, 32, 33, 34, 35, 36, 37, 38, 39, 40, 41, 42, 43, 44, 45, 46, 47, 48, 49, 50, 51, 52] (by decide +kernel) (by decide +kernel)
set_option maxRecDepth 20000 in
theorem gX7_lengthOf_X7_isNoTrack : GoodIn wsX7_lengthOf (wsV RX7 93 RX7 yX7_isNoTrack wsX7_isNoTrack) := goodIn_app (goodIn_of _ (by decide +kernel)) ggX7_lengthOf_X7_isNoTrack
set_option maxRecDepth 20000 in
theorem ggX7_lengthOf_X7_fails : GoodIn wsX7_lengthOf wsX7_fails := goodIn_r _ [13, 14, 21, 22, 23, 24, 25, 26, 27, 28, 29, 30, 31, 32, 33, 34, 35, 36, 37, 38, 39, 40, 41, 42, 43, 44, 45, 46, 47, 48, 49, 50, 51, 52] (by decide +kernel) (by decide +kernel)
set_option maxRecDepth 20000 in
theorem gX7_lengthOf_X7_fails : GoodIn wsX7_lengthOf (wsV RX7 89 RX7 yX7_fails wsX7_fails) := goodIn_app (goodIn_of _ (by decide +kernel)) ggX7_lengthOf_X7_fails
set_option maxRecDepth 20000 in
theorem ggX7_lengthOf_X7_lengthNow : GoodIn wsX7_lengthOf wsX7_lengthNow := goodIn_r _ [18, 19, 20, 21, 22, 23, 24, 25, 26, 27, 28, 29, 30, 31, 32, 33, 34, 35, 36, 37, 38, 39, 40, 41, 42, 43, 44, 45, 46, 47, 48, 49, 50, 51, 52] (by decide +kernel) (by decide +kernel)
set_option maxRecDepth 20000 in
theorem gX7_lengthOf_X7_lengthNow : GoodIn wsX7_lengthOf (wsV RX7 96 RX7 yX7_lengthNow wsX7_lengthNow) := goodIn_app (goodIn_of _ (by decide +kernel)) ggX7_lengthOf_X7_lengthNow
set_option maxRecDepth 20000 in
theorem ggX7_limitAt_X7_isNoTrack : GoodIn wsX7_limitAt wsX7_isNoTrack := goodIn_r _ [5, 6, 7, 8, 4, 9, 26, 27, 28, 29, 30, 31, 32, 33, 34, 35, 36, 37, 38, 39, 40, 41, 42, 43, 44, 45, 46, 47, 48, 49, 50, 51, 52, 53, 54, 55, 56, 57] (by decide +kernel) (by decide +kernel)
set_option maxRecDepth 20000 in
theorem gX7_limitAt_X7_isNoTrack : GoodIn wsX7_limitAt (wsV RX7 93 RX7 yX7_isNoTrack wsX7_isNoTrack) := goodIn_app (goodIn_of _ (by decide +kernel)) ggX7_limitAt_X7_isNoTrack
set_option maxRecDepth 20000 in
theorem ggX7_limitAt_X7_lengthNow : GoodIn wsX7_limitAt wsX7_lengthNow := goodIn_r _ [13, 14, 15, 26, 27, 28, 29, 30, 31, 32, 33, 34, 35, 36, 37, 38, 39, 40, 41, 42, 43, 44, 45, 46, 47, 48, 49, 50, 51, 52, 53, 54, 55, 56, 57] (by decide +kernel) (by decide +kernel)
set_option maxRecDepth 20000 in
theorem gX7_limitAt_X7_lengthNow : GoodIn wsX7_limitAt (wsV RX7 96 RX7 yX7_lengthNow wsX7_lengthNow) := goodIn_app (goodIn_of _ (by decide +kernel)) ggX7_limitAt_X7_lengthNow
set_option maxRecDepth 20000 in
theorem ggX7_limitAt_X7_in : GoodIn wsX7_limitAt wsX7_in := goodIn_r _ [9] (by decide +kernel) (by decide +kernel)
set_option maxRecDepth 20000 in
theorem gX7_limitAt_X7_in : GoodIn wsX7_limitAt (va_wsS RX7 79 yX7_in wsX7_in) := goodIn_app (goodIn_of _ (by decide +kernel)) ggX7_limitAt_X7_in
set_option maxRecDepth 20000 in
theorem ggX7_limitAt_X7_fails : GoodIn wsX7_limitAt wsX7_fails := goodIn_r _ [19, 20, 26, 27, 28, 29, 30, 31, 32, 33, 34, 35, 36, 37, 38, 39, 40, 41, 42, 43, 44, 45, 46, 47, 48, 49, 50, 51, 52, 53, 54, 55, 56, 57] (by decide +kernel) (by decide +kernel)
set_option maxRecDepth 20000 in
theorem gX7_limitAt_X7_fails : GoodIn wsX7_limitAt (wsV RX7 89 RX7 yX7_fails wsX7_fails) := goodIn_app (goodIn_of _ (by decide +kernel)) ggX7_limitAt_X7_fails
set_option maxRecDepth 20000 in
theorem ggX7_limitAt_X7_limitNow : GoodIn wsX7_limitAt wsX7_limitNow := goodIn_r _ [24, 15, 25, 26, 27, 28, 29, 30, 31, 32, 33, 34, 35, 36, 37, 38, 39, 40, 41, 42, 43, 44, 45, 46, 47, 48, 49, 50, 51, 52, 53, 54, 55, 56, 57] (by decide +kernel) (by decide +kernel)
set_option maxRecDepth 20000 in
theorem gX7_limitAt_X7_limitNow : GoodIn wsX7_limitAt (wsV RX7 100 RX7 yX7_limitNow wsX7_limitNow) := goodIn_app (goodIn_of _ (by decide +kernel)) ggX7_limitAt_X7_limitNow
set_option maxRecDepth 20000 in
theorem ggX7_type_X7_in : GoodIn wsX7_type wsX7_in := goodIn_r _ [6] (by decide +kernel) (by decide +kernel)
set_option maxRecDepth 20000 in
theorem gX7_type_X7_in : GoodIn wsX7_type (va_wsS RX7 79 yX7_in wsX7_in) := goodIn_app (goodIn_of _ (by decide +kernel)) ggX7_type_X7_in
set_option maxRecDepth 20000 in
theorem ggX7_type_X7_fails : GoodIn wsX7_type wsX7_fails := goodIn_r _ [10, 11, 12, 13, 14, 15, 16, 17, 18, 19, 20, 21, 22, 23, 24, 25, 26, 27, 28, 29, 30, 31, 32, 33, 34, 35, 36, 37, 38, 39, 40, 41, 42, 43] (by decide +kernel) (by decide +kernel)
set_option maxRecDepth 20000 in
theorem gX7_type_X7_fails : GoodIn wsX7_type (wsV RX7 89 RX7 yX7_fails wsX7_fails) := goodIn_app (goodIn_of _ (by decide +kernel)) ggX7_type_X7_fails
set_option maxRecDepth 20000 in
theorem ggX7_goes_X7_lengthNow : GoodIn wsX7_goes wsX7_lengthNow := goodIn_r _ [12, 13, 14, 20, 21, 22, 23, 24, 25, 26, 27, 28, 29, 30, 31, 32, 33, 34, 35, 36, 37, 38, 39, 40, 41, 42, 43, 44, 45, 46, 47, 48, 49, 50, 51] (by decide +kernel) (by decide +kernel)
set_option maxRecDepth 20000 in
theorem gX7_goes_X7_lengthNow : GoodIn wsX7_goes (wsV RX7 96 RX7 yX7_lengthNow wsX7_lengthNow) := goodIn_app (goodIn_of _ (by decide +kernel)) ggX7_goes_X7_lengthNow
set_option maxRecDepth 20000 in
theorem ggX7_goes_X7_limitNow : GoodIn wsX7_goes wsX7_limitNow := goodIn_r _ [18, 14, 19, 20, 21, 22, 23, 24, 25, 26, 27, 28, 29, 30, 31, 32, 33, 34, 35, 36, 37, 38, 39, 40, 41, 42, 43, 44, 45, 46, 47, 48, 49, 50, 51] (by decide +kernel) (by decide +kernel)
set_option maxRecDepth 20000 in
theorem gX7_goes_X7_limitNow : GoodIn wsX7_goes (wsV RX7 100 RX7 yX7_limitNow wsX7_limitNow) := goodIn_app (goodIn_of _ (by decide +kernel)) ggX7_goes_X7_limitNow
set_option maxRecDepth 20000 in
theorem ggX7_drives_X7_starts : GoodIn wsX7_drives wsX7_starts := goodIn_r _ [9, 10, 11, 1, 3, 30, 31, 32, 33, 34, 35, 36, 37, 38, 39, 40, 41, 42, 43, 44, 45, 46, 47, 48, 49, 50, 51, 52, 53, 54, 55, 56, 57, 58, 59, 60, 61] (by decide +kernel) (by decide +kernel)
set_option maxRecDepth 20000 in
theorem gX7_drives_X7_starts : GoodIn wsX7_drives (wsV RX7 120 RX7 yX7_starts wsX7_starts) := goodIn_app (goodIn_of _ (by decide +kernel)) ggX7_drives_X7_starts
set_option maxRecDepth 20000 in
theorem ggX7_drives_X7_goes : GoodIn wsX7_drives wsX7_goes := goodIn_r _ [15, 11, 16, 17, 10, 1, 3, 18, 19, 20, 21, 8, 22, 23, 24, 25, 26, 27, 28, 29, 30, 31, 32, 33, 34, 35, 36, 37, 38, 39, 40, 41, 42, 43, 44, 45, 46, 47, 48, 49, 50, 51, 52, 53, 54, 55, 56, 57, 58, 59, 60, 61] (by decide +kernel) (by decide +kernel)
set_option maxRecDepth 20000 in
theorem gX7_drives_X7_goes : GoodIn wsX7_drives (wsV RX7 123 RX7 yX7_goes wsX7_goes) := goodIn_app (goodIn_of _ (by decide +kernel)) ggX7_drives_X7_goes
set_option maxRecDepth 20000 in
theorem ggX7_timeNow_X7_lengthNow : GoodIn wsX7_timeNow wsX7_lengthNow := goodIn_r _ [8, 9, 10, 11, 12, 13, 14, 15, 16, 17, 18, 19, 20, 21, 22, 23, 24, 25, 26, 27, 28, 29, 30, 31, 32, 33, 34, 35, 36, 37, 38, 39, 40, 41, 42] (by decide +kernel) (by decide +kernel)
set_option maxRecDepth 20000 in
theorem gX7_timeNow_X7_lengthNow : GoodIn wsX7_timeNow (wsV RX7 96 RX7 yX7_lengthNow wsX7_lengthNow) := goodIn_app (goodIn_of _ (by decide +kernel)) ggX7_timeNow_X7_lengthNow
set_option maxRecDepth 20000 in
theorem ggX7_canDrive_X7_drives : GoodIn wsX7_canDrive wsX7_drives := goodIn_r _ [7, 8, 9, 2, 10, 11, 12, 13, 6, 14, 15, 16, 17, 18, 19, 20, 21, 22, 23, 24, 25, 26, 27, 1, 28, 29, 30, 31, 32, 33, 34, 35, 36, 37, 38, 39, 40, 41, 42, 43, 44, 45, 46, 47, 48, 49, 50, 51, 52, 53, 54, 55, 56, 57, 58, 59, 60, 61, 62, 63, 64, 65] (by decide +kernel) (by decide +kernel)
set_option maxRecDepth 20000 in
theorem gX7_canDrive_X7_drives : GoodIn wsX7_canDrive (wsV RX7 127 RX7 yX7_drives wsX7_drives) := goodIn_app (goodIn_of _ (by decide +kernel)) ggX7_canDrive_X7_drives
set_option maxRecDepth 20000 in
theorem ggX7_isGhost_X7_isNoLap : GoodIn wsX7_isGhost wsX7_isNoLap := goodIn_r _ [7, 8, 9, 10, 6, 11, 12, 13, 14, 15, 16, 17, 18, 19, 20, 21, 22, 23, 24, 25, 26, 27, 28, 29, 30, 31, 32, 33, 34, 35, 36, 37, 38, 39, 40, 41, 42, 43] (by decide +kernel) (by decide +kernel)
set_option maxRecDepth 20000 in
theorem gX7_isGhost_X7_isNoLap : GoodIn wsX7_isGhost (wsV RX7 131 RX7 yX7_isNoLap wsX7_isNoLap) := goodIn_app (goodIn_of _ (by decide +kernel)) ggX7_isGhost_X7_isNoLap
set_option maxRecDepth 20000 in
theorem ggX7_drive_X7_in : GoodIn wsX7_drive wsX7_in := goodIn_r _ [20] (by decide +kernel) (by decide +kernel)
set_option maxRecDepth 20000 in
theorem gX7_drive_X7_in : GoodIn wsX7_drive (va_wsS RX7 79 yX7_in wsX7_in) := goodIn_app (goodIn_of _ (by decide +kernel)) ggX7_drive_X7_in
set_option maxRecDepth 20000 in
theorem ggX7_drive_X7_isNoTrack : GoodIn wsX7_drive wsX7_isNoTrack := goodIn_r _ [24, 25, 17, 18, 19, 20, 86, 87, 88, 89, 90, 91, 92, 93, 94, 95, 96, 97, 98, 99, 100, 101, 102, 103, 104, 105, 106, 107, 108, 109, 110, 111, 112, 113, 114, 115, 116, 117] (by decide +kernel) (by decide +kernel)
set_option maxRecDepth 20000 in
theorem gX7_drive_X7_isNoTrack : GoodIn wsX7_drive (wsV RX7 93 RX7 yX7_isNoTrack wsX7_isNoTrack) := goodIn_app (goodIn_of _ (by decide +kernel)) ggX7_drive_X7_isNoTrack
set_option maxRecDepth 20000 in
theorem ggX7_drive_X7_isNoCar : GoodIn wsX7_drive wsX7_isNoCar := goodIn_r _ [29, 30, 17, 18, 19, 20, 86, 87, 88, 89, 90, 91, 92, 93, 94, 95, 96, 97, 98, 99, 100, 101, 102, 103, 104, 105, 106, 107, 108, 109, 110, 111, 112, 113, 114, 115, 116, 117] (by decide +kernel) (by decide +kernel)
set_option maxRecDepth 20000 in
theorem gX7_drive_X7_isNoCar : GoodIn wsX7_drive (wsV RX7 134 RX7 yX7_isNoCar wsX7_isNoCar) := goodIn_app (goodIn_of _ (by decide +kernel)) ggX7_drive_X7_isNoCar
set_option maxRecDepth 20000 in
theorem ggX7_drive_X7_isGhost : GoodIn wsX7_drive wsX7_isGhost := goodIn_r _ [34, 8, 35, 36, 37, 38, 19, 39, 1, 17, 18, 20, 86, 87, 88, 89, 90, 91, 92, 93, 94, 95, 96, 97, 98, 99, 100, 101, 102, 103, 104, 105, 106, 107, 108, 109, 110, 111, 112, 113, 114, 115, 116, 117] (by decide +kernel) (by decide +kernel)
set_option maxRecDepth 20000 in
theorem gX7_drive_X7_isGhost : GoodIn wsX7_drive (wsV RX7 137 RX7 yX7_isGhost wsX7_isGhost) := goodIn_app (goodIn_of _ (by decide +kernel)) ggX7_drive_X7_isGhost
set_option maxRecDepth 20000 in
theorem ggX7_drive_X7_canDrive : GoodIn wsX7_drive wsX7_canDrive := goodIn_r _ [43, 44, 45, 46, 47, 48, 19, 49, 3, 16, 6, 50, 51, 52, 53, 54, 55, 56, 57, 58, 59, 60, 61, 62, 63, 64, 65, 66, 67, 68, 69, 70, 71, 72, 86, 87, 88, 89, 90, 91, 92, 93, 94, 95, 96, 97, 98, 99, 100, 101, 102, 103, 104, 105, 106, 107, 108, 109, 110, 111, 112, 113, 114, 115, 116, 117] (by decide +kernel) (by decide +kernel)
set_option maxRecDepth 20000 in
theorem gX7_drive_X7_canDrive : GoodIn wsX7_drive (wsV RX7 141 RX7 yX7_canDrive wsX7_canDrive) := goodIn_app (goodIn_of _ (by decide +kernel)) ggX7_drive_X7_canDrive
set_option maxRecDepth 20000 in
theorem ggX7_drive_X7_fails : GoodIn wsX7_drive wsX7_fails := goodIn_r _ [76, 77, 86, 87, 88, 89, 90, 91, 92, 93, 94, 95, 96, 97, 98, 99, 100, 101, 102, 103, 104, 105, 106, 107, 108, 109, 110, 111, 112, 113, 114, 115, 116, 117] (by decide +kernel) (by decide +kernel)
set_option maxRecDepth 20000 in
theorem gX7_drive_X7_fails : GoodIn wsX7_drive (wsV RX7 89 RX7 yX7_fails wsX7_fails) := goodIn_app (goodIn_of _ (by decide +kernel)) ggX7_drive_X7_fails
set_option maxRecDepth 20000 in
theorem ggX7_drive_X7_timeNow : GoodIn wsX7_drive wsX7_timeNow := goodIn_r _ [81, 3, 54, 55, 63, 64, 65, 19, 66, 44, 67, 86, 87, 88, 89, 90, 91, 92, 93, 94, 95, 96, 97, 98, 99, 100, 101, 102, 103, 104, 105, 106, 107, 108, 109, 110, 111, 112, 113, 114, 115, 116, 117] (by decide +kernel) (by decide +kernel)
set_option maxRecDepth 20000 in
theorem gX7_drive_X7_timeNow : GoodIn wsX7_drive (wsV RX7 144 RX7 yX7_timeNow wsX7_timeNow) := goodIn_app (goodIn_of _ (by decide +kernel)) ggX7_drive_X7_timeNow
set_option maxRecDepth 20000 in
theorem ggX7_drive_X7_depthOf : GoodIn wsX7_drive wsX7_depthOf := goodIn_r _ [85, 15, 86, 87, 88, 89, 90, 91, 92, 93, 94, 95, 96, 97, 98, 99, 100, 101, 102, 103, 104, 105, 106, 107, 108, 109, 110, 111, 112, 113, 114, 115, 116, 117] (by decide +kernel) (by decide +kernel)
set_option maxRecDepth 20000 in
theorem gX7_drive_X7_depthOf : GoodIn wsX7_drive (wsV RX7 153 RX7 yX7_depthOf wsX7_depthOf) := goodIn_app (goodIn_of _ (by decide +kernel)) ggX7_drive_X7_depthOf
set_option maxRecDepth 20000 in
theorem ggX7_tryOut_X7_isNoTrack : GoodIn wsX7_tryOut wsX7_isNoTrack := goodIn_r _ [5, 6, 7, 8, 4, 9, 60, 61, 62, 63, 64, 65, 66, 67, 68, 69, 70, 71, 72, 73, 74, 75, 76, 77, 78, 79, 80, 81, 82, 83, 84, 85, 86, 87, 88, 89, 90, 91] (by decide +kernel) (by decide +kernel)
set_option maxRecDepth 20000 in
theorem gX7_tryOut_X7_isNoTrack : GoodIn wsX7_tryOut (wsV RX7 93 RX7 yX7_isNoTrack wsX7_isNoTrack) := goodIn_app (goodIn_of _ (by decide +kernel)) ggX7_tryOut_X7_isNoTrack
set_option maxRecDepth 20000 in
theorem ggX7_tryOut_X7_isNoCar : GoodIn wsX7_tryOut wsX7_isNoCar := goodIn_r _ [13, 14, 7, 8, 4, 9, 60, 61, 62, 63, 64, 65, 66, 67, 68, 69, 70, 71, 72, 73, 74, 75, 76, 77, 78, 79, 80, 81, 82, 83, 84, 85, 86, 87, 88, 89, 90, 91] (by decide +kernel) (by decide +kernel)
set_option maxRecDepth 20000 in
theorem gX7_tryOut_X7_isNoCar : GoodIn wsX7_tryOut (wsV RX7 134 RX7 yX7_isNoCar wsX7_isNoCar) := goodIn_app (goodIn_of _ (by decide +kernel)) ggX7_tryOut_X7_isNoCar
set_option maxRecDepth 20000 in
theorem ggX7_tryOut_X7_canDrive : GoodIn wsX7_tryOut wsX7_canDrive := goodIn_r _ [18, 19, 20, 21, 22, 23, 4, 24, 25, 26, 27, 28, 29, 30, 31, 32, 33, 34, 35, 36, 37, 38, 39, 40, 41, 42, 43, 44, 45, 46, 47, 48, 49, 50, 60, 61, 62, 63, 64, 65, 66, 67, 68, 69, 70, 71, 72, 73, 74, 75, 76, 77, 78, 79, 80, 81, 82, 83, 84, 85, 86, 87, 88, 89, 90, 91] (by decide +kernel) (by decide +kernel)
set_option maxRecDepth 20000 in
theorem gX7_tryOut_X7_canDrive : GoodIn wsX7_tryOut (wsV RX7 141 RX7 yX7_canDrive wsX7_canDrive) := goodIn_app (goodIn_of _ (by decide +kernel)) ggX7_tryOut_X7_canDrive
set_option maxRecDepth 20000 in
theorem ggX7_tryOut_X7_fails : GoodIn wsX7_tryOut wsX7_fails := goodIn_r _ [54, 55, 60, 61, 62, 63, 64, 65, 66, 67, 68, 69, 70, 71, 72, 73, 74, 75, 76, 77, 78, 79, 80, 81, 82, 83, 84, 85, 86, 87, 88, 89, 90, 91] (by decide +kernel) (by decide +kernel)
set_option maxRecDepth 20000 in
theorem gX7_tryOut_X7_fails : GoodIn wsX7_tryOut (wsV RX7 89 RX7 yX7_fails wsX7_fails) := goodIn_app (goodIn_of _ (by decide +kernel)) ggX7_tryOut_X7_fails
set_option maxRecDepth 20000 in
theorem ggX7_tryOut_X7_timeNow : GoodIn wsX7_tryOut wsX7_timeNow := goodIn_r _ [59, 25, 32, 33, 41, 42, 43, 4, 44, 19, 45, 60, 61, 62, 63, 64, 65, 66, 67, 68, 69, 70, 71, 72, 73, 74, 75, 76, 77, 78, 79, 80, 81, 82, 83, 84, 85, 86, 87, 88, 89, 90, 91] (by decide +kernel) (by decide +kernel)
set_option maxRecDepth 20000 in
theorem gX7_tryOut_X7_timeNow : GoodIn wsX7_tryOut (wsV RX7 144 RX7 yX7_timeNow wsX7_timeNow) := goodIn_app (goodIn_of _ (by decide +kernel)) ggX7_tryOut_X7_timeNow
set_option maxRecDepth 20000 in
theorem ggX7_time_X7_isNoLap : GoodIn wsX7_time wsX7_isNoLap := goodIn_r _ [6, 7, 8, 9, 5, 10, 21, 22, 23, 24, 25, 26, 27, 28, 29, 30, 31, 32, 33, 34, 35, 36, 37, 38, 39, 40, 41, 42, 43, 44, 45, 46, 47, 48, 49, 50, 51, 52] (by decide +kernel) (by decide +kernel)
set_option maxRecDepth 20000 in
theorem gX7_time_X7_isNoLap : GoodIn wsX7_time (wsV RX7 131 RX7 yX7_isNoLap wsX7_isNoLap) := goodIn_app (goodIn_of _ (by decide +kernel)) ggX7_time_X7_isNoLap
set_option maxRecDepth 20000 in
theorem ggX7_time_X7_fails : GoodIn wsX7_time wsX7_fails := goodIn_r _ [14, 15, 21, 22, 23, 24, 25, 26, 27, 28, 29, 30, 31, 32, 33, 34, 35, 36, 37, 38, 39, 40, 41, 42, 43, 44, 45, 46, 47, 48, 49, 50, 51, 52] (by decide +kernel) (by decide +kernel)
set_option maxRecDepth 20000 in
theorem gX7_time_X7_fails : GoodIn wsX7_time (wsV RX7 89 RX7 yX7_fails wsX7_fails) := goodIn_app (goodIn_of _ (by decide +kernel)) ggX7_time_X7_fails
set_option maxRecDepth 20000 in
theorem ggX7_time_X7_countOf : GoodIn wsX7_time wsX7_countOf := goodIn_r _ [19, 1, 20, 21, 22, 23, 24, 25, 26, 27, 28, 29, 30, 31, 32, 33, 34, 35, 36, 37, 38, 39, 40, 41, 42, 43, 44, 45, 46, 47, 48, 49, 50, 51, 52] (by decide +kernel) (by decide +kernel)
set_option maxRecDepth 20000 in
theorem gX7_time_X7_countOf : GoodIn wsX7_time (wsV RX7 156 RX7 yX7_countOf wsX7_countOf) := goodIn_app (goodIn_of _ (by decide +kernel)) ggX7_time_X7_countOf
set_option maxRecDepth 20000 in
theorem ggX7_ticks_X7_isNoLap : GoodIn wsX7_ticks wsX7_isNoLap := goodIn_r _ [6, 7, 8, 9, 5, 10, 16, 17, 18, 19, 20, 21, 22, 23, 24, 25, 26, 27, 28, 29, 30, 31, 32, 33, 34, 35, 36, 37, 38, 39, 40, 41, 42, 43, 44, 45, 46, 47] (by decide +kernel) (by decide +kernel)
set_option maxRecDepth 20000 in
theorem gX7_ticks_X7_isNoLap : GoodIn wsX7_ticks (wsV RX7 131 RX7 yX7_isNoLap wsX7_isNoLap) := goodIn_app (goodIn_of _ (by decide +kernel)) ggX7_ticks_X7_isNoLap
set_option maxRecDepth 20000 in
theorem ggX7_ticks_X7_fails : GoodIn wsX7_ticks wsX7_fails := goodIn_r _ [14, 15, 16, 17, 18, 19, 20, 21, 22, 23, 24, 25, 26, 27, 28, 29, 30, 31, 32, 33, 34, 35, 36, 37, 38, 39, 40, 41, 42, 43, 44, 45, 46, 47] (by decide +kernel) (by decide +kernel)
set_option maxRecDepth 20000 in
theorem gX7_ticks_X7_fails : GoodIn wsX7_ticks (wsV RX7 89 RX7 yX7_fails wsX7_fails) := goodIn_app (goodIn_of _ (by decide +kernel)) ggX7_ticks_X7_fails
set_option maxRecDepth 20000 in
theorem ggX7_inputAt_X7_isNoLap : GoodIn wsX7_inputAt wsX7_isNoLap := goodIn_r _ [7, 8, 9, 10, 6, 11, 17, 18, 19, 20, 21, 22, 23, 24, 25, 26, 27, 28, 29, 30, 31, 32, 33, 34, 35, 36, 37, 38, 39, 40, 41, 42, 43, 44, 45, 46, 47, 48] (by decide +kernel) (by decide +kernel)
set_option maxRecDepth 20000 in
theorem gX7_inputAt_X7_isNoLap : GoodIn wsX7_inputAt (wsV RX7 131 RX7 yX7_isNoLap wsX7_isNoLap) := goodIn_app (goodIn_of _ (by decide +kernel)) ggX7_inputAt_X7_isNoLap
set_option maxRecDepth 20000 in
theorem ggX7_inputAt_X7_in : GoodIn wsX7_inputAt wsX7_in := goodIn_r _ [11] (by decide +kernel) (by decide +kernel)
set_option maxRecDepth 20000 in
theorem gX7_inputAt_X7_in : GoodIn wsX7_inputAt (va_wsS RX7 79 yX7_in wsX7_in) := goodIn_app (goodIn_of _ (by decide +kernel)) ggX7_inputAt_X7_in
set_option maxRecDepth 20000 in
theorem ggX7_inputAt_X7_fails : GoodIn wsX7_inputAt wsX7_fails := goodIn_r _ [15, 16, 17, 18, 19, 20, 21, 22, 23, 24, 25, 26, 27, 28, 29, 30, 31, 32, 33, 34, 35, 36, 37, 38, 39, 40, 41, 42, 43, 44, 45, 46, 47, 48] (by decide +kernel) (by decide +kernel)
set_option maxRecDepth 20000 in
theorem gX7_inputAt_X7_fails : GoodIn wsX7_inputAt (wsV RX7 89 RX7 yX7_fails wsX7_fails) := goodIn_app (goodIn_of _ (by decide +kernel)) ggX7_inputAt_X7_fails
set_option maxRecDepth 20000 in
theorem ggX7_replay_X7_isNoLap : GoodIn wsX7_replay wsX7_isNoLap := goodIn_r _ [12, 13, 14, 15, 11, 16, 45, 46, 47, 48, 49, 50, 51, 52, 53, 54, 55, 56, 57, 58, 59, 60, 61, 62, 63, 64, 65, 66, 67, 68, 69, 70, 71, 72, 73, 74, 75, 76] (by decide +kernel) (by decide +kernel)
set_option maxRecDepth 20000 in
theorem gX7_replay_X7_isNoLap : GoodIn wsX7_replay (wsV RX7 131 RX7 yX7_isNoLap wsX7_isNoLap) := goodIn_app (goodIn_of _ (by decide +kernel)) ggX7_replay_X7_isNoLap
set_option maxRecDepth 20000 in
theorem ggX7_replay_X7_in : GoodIn wsX7_replay wsX7_in := goodIn_r _ [16] (by decide +kernel) (by decide +kernel)
set_option maxRecDepth 20000 in
theorem gX7_replay_X7_in : GoodIn wsX7_replay (va_wsS RX7 79 yX7_in wsX7_in) := goodIn_app (goodIn_of _ (by decide +kernel)) ggX7_replay_X7_in
set_option maxRecDepth 20000 in
theorem ggX7_replay_X7_fails : GoodIn wsX7_replay wsX7_fails := goodIn_r _ [20, 21, 45, 46, 47, 48, 49, 50, 51, 52, 53, 54, 55, 56, 57, 58, 59, 60, 61, 62, 63, 64, 65, 66, 67, 68, 69, 70, 71, 72, 73, 74, 75, 76] (by decide +kernel) (by decide +kernel)
set_option maxRecDepth 20000 in
theorem gX7_replay_X7_fails : GoodIn wsX7_replay (wsV RX7 89 RX7 yX7_fails wsX7_fails) := goodIn_app (goodIn_of _ (by decide +kernel)) ggX7_replay_X7_fails
set_option maxRecDepth 20000 in
theorem ggX7_replay_X7_starts : GoodIn wsX7_replay wsX7_starts := goodIn_r _ [25, 7, 6, 2, 26, 45, 46, 47, 48, 49, 50, 51, 52, 53, 54, 55, 56, 57, 58, 59, 60, 61, 62, 63, 64, 65, 66, 67, 68, 69, 70, 71, 72, 73, 74, 75, 76] (by decide +kernel) (by decide +kernel)
set_option maxRecDepth 20000 in
theorem gX7_replay_X7_starts : GoodIn wsX7_replay (wsV RX7 120 RX7 yX7_starts wsX7_starts) := goodIn_app (goodIn_of _ (by decide +kernel)) ggX7_replay_X7_starts
set_option maxRecDepth 20000 in
theorem ggX7_replay_X7_goes : GoodIn wsX7_replay wsX7_goes := goodIn_r _ [30, 6, 31, 32, 7, 2, 26, 33, 34, 35, 36, 11, 37, 38, 39, 40, 41, 42, 43, 44, 45, 46, 47, 48, 49, 50, 51, 52, 53, 54, 55, 56, 57, 58, 59, 60, 61, 62, 63, 64, 65, 66, 67, 68, 69, 70, 71, 72, 73, 74, 75, 76] (by decide +kernel) (by decide +kernel)
set_option maxRecDepth 20000 in
theorem gX7_replay_X7_goes : GoodIn wsX7_replay (wsV RX7 123 RX7 yX7_goes wsX7_goes) := goodIn_app (goodIn_of _ (by decide +kernel)) ggX7_replay_X7_goes
set_option maxRecDepth 20000 in
theorem ggX7_of_X7_isNoLap : GoodIn wsX7_of wsX7_isNoLap := goodIn_r _ [10, 11, 12, 13, 9, 14, 20, 21, 22, 23, 24, 25, 26, 27, 28, 29, 30, 31, 32, 33, 34, 35, 36, 37, 38, 39, 40, 41, 42, 43, 44, 45, 46, 47, 48, 49, 50, 51] (by decide +kernel) (by decide +kernel)
set_option maxRecDepth 20000 in
theorem gX7_of_X7_isNoLap : GoodIn wsX7_of (wsV RX7 131 RX7 yX7_isNoLap wsX7_isNoLap) := goodIn_app (goodIn_of _ (by decide +kernel)) ggX7_of_X7_isNoLap
set_option maxRecDepth 20000 in
theorem ggX7_of_X7_fails : GoodIn wsX7_of wsX7_fails := goodIn_r _ [18, 19, 20, 21, 22, 23, 24, 25, 26, 27, 28, 29, 30, 31, 32, 33, 34, 35, 36, 37, 38, 39, 40, 41, 42, 43, 44, 45, 46, 47, 48, 49, 50, 51] (by decide +kernel) (by decide +kernel)
set_option maxRecDepth 20000 in
theorem gX7_of_X7_fails : GoodIn wsX7_of (wsV RX7 89 RX7 yX7_fails wsX7_fails) := goodIn_app (goodIn_of _ (by decide +kernel)) ggX7_of_X7_fails
set_option maxRecDepth 20000 in
theorem ggX7_beats_X7_isNoLap : GoodIn wsX7_beats wsX7_isNoLap := goodIn_r _ [6, 7, 8, 9, 5, 10, 22, 23, 24, 25, 26, 27, 28, 29, 30, 31, 32, 33, 34, 35, 36, 37, 38, 39, 40, 41, 42, 43, 44, 45, 46, 47, 48, 49, 50, 51, 52, 53] (by decide +kernel) (by decide +kernel)
set_option maxRecDepth 20000 in
theorem gX7_beats_X7_isNoLap : GoodIn wsX7_beats (wsV RX7 131 RX7 yX7_isNoLap wsX7_isNoLap) := goodIn_app (goodIn_of _ (by decide +kernel)) ggX7_beats_X7_isNoLap
set_option maxRecDepth 20000 in
theorem ggX7_beats_X7_fails : GoodIn wsX7_beats wsX7_fails := goodIn_r _ [14, 15, 22, 23, 24, 25, 26, 27, 28, 29, 30, 31, 32, 33, 34, 35, 36, 37, 38, 39, 40, 41, 42, 43, 44, 45, 46, 47, 48, 49, 50, 51, 52, 53] (by decide +kernel) (by decide +kernel)
set_option maxRecDepth 20000 in
theorem gX7_beats_X7_fails : GoodIn wsX7_beats (wsV RX7 89 RX7 yX7_fails wsX7_fails) := goodIn_app (goodIn_of _ (by decide +kernel)) ggX7_beats_X7_fails
set_option maxRecDepth 20000 in
theorem ggX7_beats_X7_countOf : GoodIn wsX7_beats wsX7_countOf := goodIn_r _ [19, 20, 21, 22, 23, 24, 25, 26, 27, 28, 29, 30, 31, 32, 33, 34, 35, 36, 37, 38, 39, 40, 41, 42, 43, 44, 45, 46, 47, 48, 49, 50, 51, 52, 53] (by decide +kernel) (by decide +kernel)
set_option maxRecDepth 20000 in
theorem gX7_beats_X7_countOf : GoodIn wsX7_beats (wsV RX7 156 RX7 yX7_countOf wsX7_countOf) := goodIn_app (goodIn_of _ (by decide +kernel)) ggX7_beats_X7_countOf
set_option maxRecDepth 20000 in
theorem ggX7_least_X7_countOf : GoodIn wsX7_least wsX7_countOf := goodIn_r _ [8, 9, 10, 24, 25, 26, 27, 28, 29, 30, 31, 32, 33, 34, 35, 36, 37, 38, 39, 40, 41, 42, 43, 44, 45, 46, 47, 48, 49, 50, 51, 52, 53, 54, 55] (by decide +kernel) (by decide +kernel)
set_option maxRecDepth 20000 in
theorem gX7_least_X7_countOf : GoodIn wsX7_least (wsV RX7 156 RX7 yX7_countOf wsX7_countOf) := goodIn_app (goodIn_of _ (by decide +kernel)) ggX7_least_X7_countOf
set_option maxRecDepth 20000 in
theorem ggX7_least_X7_isNoTrack : GoodIn wsX7_least wsX7_isNoTrack := goodIn_r _ [14, 15, 16, 17, 7, 18, 24, 25, 26, 27, 28, 29, 30, 31, 32, 33, 34, 35, 36, 37, 38, 39, 40, 41, 42, 43, 44, 45, 46, 47, 48, 49, 50, 51, 52, 53, 54, 55] (by decide +kernel) (by decide +kernel)
set_option maxRecDepth 20000 in
theorem gX7_least_X7_isNoTrack : GoodIn wsX7_least (wsV RX7 93 RX7 yX7_isNoTrack wsX7_isNoTrack) := goodIn_app (goodIn_of _ (by decide +kernel)) ggX7_least_X7_isNoTrack
set_option maxRecDepth 20000 in
theorem ggX7_least_X7_fails : GoodIn wsX7_least wsX7_fails := goodIn_r _ [22, 23, 24, 25, 26, 27, 28, 29, 30, 31, 32, 33, 34, 35, 36, 37, 38, 39, 40, 41, 42, 43, 44, 45, 46, 47, 48, 49, 50, 51, 52, 53, 54, 55] (by decide +kernel) (by decide +kernel)
set_option maxRecDepth 20000 in
theorem gX7_least_X7_fails : GoodIn wsX7_least (wsV RX7 89 RX7 yX7_fails wsX7_fails) := goodIn_app (goodIn_of _ (by decide +kernel)) ggX7_least_X7_fails
set_option maxRecDepth 20000 in
theorem ggX7_base_X7_isNoLap : GoodIn wsX7_base wsX7_isNoLap := goodIn_r _ [6, 7, 8, 9, 5, 10, 16, 17, 18, 19, 20, 21, 22, 23, 24, 25, 26, 27, 28, 29, 30, 31, 32, 33, 34, 35, 36, 37, 38, 39, 40, 41, 42, 43, 44, 45, 46, 47] (by decide +kernel) (by decide +kernel)
set_option maxRecDepth 20000 in
theorem gX7_base_X7_isNoLap : GoodIn wsX7_base (wsV RX7 131 RX7 yX7_isNoLap wsX7_isNoLap) := goodIn_app (goodIn_of _ (by decide +kernel)) ggX7_base_X7_isNoLap
set_option maxRecDepth 20000 in
theorem ggX7_base_X7_fails : GoodIn wsX7_base wsX7_fails := goodIn_r _ [14, 15, 16, 17, 18, 19, 20, 21, 22, 23, 24, 25, 26, 27, 28, 29, 30, 31, 32, 33, 34, 35, 36, 37, 38, 39, 40, 41, 42, 43, 44, 45, 46, 47] (by decide +kernel) (by decide +kernel)
set_option maxRecDepth 20000 in
theorem gX7_base_X7_fails : GoodIn wsX7_base (wsV RX7 89 RX7 yX7_fails wsX7_fails) := goodIn_app (goodIn_of _ (by decide +kernel)) ggX7_base_X7_fails
set_option maxRecDepth 20000 in
theorem ggX7_depth_X7_isNoLap : GoodIn wsX7_depth wsX7_isNoLap := goodIn_r _ [5, 6, 7, 8, 4, 9, 20, 21, 22, 23, 24, 25, 26, 27, 28, 29, 30, 31, 32, 33, 34, 35, 36, 37, 38, 39, 40, 41, 42, 43, 44, 45, 46, 47, 48, 49, 50, 51] (by decide +kernel) (by decide +kernel)
set_option maxRecDepth 20000 in
theorem gX7_depth_X7_isNoLap : GoodIn wsX7_depth (wsV RX7 131 RX7 yX7_isNoLap wsX7_isNoLap) := goodIn_app (goodIn_of _ (by decide +kernel)) ggX7_depth_X7_isNoLap
set_option maxRecDepth 20000 in
theorem ggX7_depth_X7_fails : GoodIn wsX7_depth wsX7_fails := goodIn_r _ [13, 14, 20, 21, 22, 23, 24, 25, 26, 27, 28, 29, 30, 31, 32, 33, 34, 35, 36, 37, 38, 39, 40, 41, 42, 43, 44, 45, 46, 47, 48, 49, 50, 51] (by decide +kernel) (by decide +kernel)
set_option maxRecDepth 20000 in
theorem gX7_depth_X7_fails : GoodIn wsX7_depth (wsV RX7 89 RX7 yX7_fails wsX7_fails) := goodIn_app (goodIn_of _ (by decide +kernel)) ggX7_depth_X7_fails
set_option maxRecDepth 20000 in
theorem ggX7_depth_X7_depthOf : GoodIn wsX7_depth wsX7_depthOf := goodIn_r _ [18, 19, 20, 21, 22, 23, 24, 25, 26, 27, 28, 29, 30, 31, 32, 33, 34, 35, 36, 37, 38, 39, 40, 41, 42, 43, 44, 45, 46, 47, 48, 49, 50, 51] (by decide +kernel) (by decide +kernel)
set_option maxRecDepth 20000 in
theorem gX7_depth_X7_depthOf : GoodIn wsX7_depth (wsV RX7 153 RX7 yX7_depthOf wsX7_depthOf) := goodIn_app (goodIn_of _ (by decide +kernel)) ggX7_depth_X7_depthOf
set_option maxRecDepth 20000 in
theorem ggX7_parts_X7_isNoLap : GoodIn wsX7_parts wsX7_isNoLap := goodIn_r _ [5, 6, 7, 8, 4, 9, 22, 23, 24, 25, 26, 27, 28, 29, 30, 31, 32, 33, 34, 35, 36, 37, 38, 39, 40, 41, 42, 43, 44, 45, 46, 47, 48, 49, 50, 51, 52, 53] (by decide +kernel) (by decide +kernel)
set_option maxRecDepth 20000 in
theorem gX7_parts_X7_isNoLap : GoodIn wsX7_parts (wsV RX7 131 RX7 yX7_isNoLap wsX7_isNoLap) := goodIn_app (goodIn_of _ (by decide +kernel)) ggX7_parts_X7_isNoLap
set_option maxRecDepth 20000 in
theorem ggX7_parts_X7_fails : GoodIn wsX7_parts wsX7_fails := goodIn_r _ [13, 14, 22, 23, 24, 25, 26, 27, 28, 29, 30, 31, 32, 33, 34, 35, 36, 37, 38, 39, 40, 41, 42, 43, 44, 45, 46, 47, 48, 49, 50, 51, 52, 53] (by decide +kernel) (by decide +kernel)
set_option maxRecDepth 20000 in
theorem gX7_parts_X7_fails : GoodIn wsX7_parts (wsV RX7 89 RX7 yX7_fails wsX7_fails) := goodIn_app (goodIn_of _ (by decide +kernel)) ggX7_parts_X7_fails
set_option maxRecDepth 20000 in
theorem ggX7_parts_X7_partsOf : GoodIn wsX7_parts wsX7_partsOf := goodIn_r _ [18, 19, 20, 21, 22, 23, 24, 25, 26, 27, 28, 29, 30, 31, 32, 33, 34, 35, 36, 37, 38, 39, 40, 41, 42, 43, 44, 45, 46, 47, 48, 49, 50, 51, 52, 53] (by decide +kernel) (by decide +kernel)
set_option maxRecDepth 20000 in
theorem gX7_parts_X7_partsOf : GoodIn wsX7_parts (wsV RX7 159 RX7 yX7_partsOf wsX7_partsOf) := goodIn_app (goodIn_of _ (by decide +kernel)) ggX7_parts_X7_partsOf
set_option maxRecDepth 20000 in
theorem ggX7_allParts_X7_partsOf : GoodIn wsX7_allParts wsX7_partsOf := goodIn_r _ [6, 7, 8, 9, 10, 11, 12, 13, 14, 15, 16, 17, 18, 19, 20, 21, 22, 23, 24, 25, 26, 27, 28, 29, 30, 31, 32, 33, 34, 35, 36, 37, 38, 39, 40, 41] (by decide +kernel) (by decide +kernel)
set_option maxRecDepth 20000 in
theorem gX7_allParts_X7_partsOf : GoodIn wsX7_allParts (wsV RX7 159 RX7 yX7_partsOf wsX7_partsOf) := goodIn_app (goodIn_of _ (by decide +kernel)) ggX7_allParts_X7_partsOf
set_option maxRecDepth 20000 in
theorem ggX7_stored_X7_allParts : GoodIn wsX7_stored wsX7_allParts := goodIn_r _ [6, 7, 8, 9, 10, 5, 11, 12, 13, 14, 15, 16, 17, 18, 19, 20, 21, 22, 23, 24, 25, 26, 27, 28, 29, 30, 31, 32, 33, 34, 35, 36, 37, 38, 39, 40, 41, 42, 43, 44, 45, 46] (by decide +kernel) (by decide +kernel)
set_option maxRecDepth 20000 in
theorem gX7_stored_X7_allParts : GoodIn wsX7_stored (wsV RX7 162 RX7 yX7_allParts wsX7_allParts) := goodIn_app (goodIn_of _ (by decide +kernel)) ggX7_stored_X7_allParts
set_option maxRecDepth 20000 in
theorem ggX7_resting_X7_isNoLap : GoodIn wsX7_resting wsX7_isNoLap := goodIn_r _ [6, 1, 7, 8, 5, 9, 20, 21, 22, 23, 24, 25, 26, 27, 28, 29, 30, 31, 32, 33, 34, 35, 36, 37, 38, 39, 40, 41, 42, 43, 44, 45, 46, 47, 48, 49, 50, 51] (by decide +kernel) (by decide +kernel)
set_option maxRecDepth 20000 in
theorem gX7_resting_X7_isNoLap : GoodIn wsX7_resting (wsV RX7 131 RX7 yX7_isNoLap wsX7_isNoLap) := goodIn_app (goodIn_of _ (by decide +kernel)) ggX7_resting_X7_isNoLap
set_option maxRecDepth 20000 in
theorem ggX7_resting_X7_fails : GoodIn wsX7_resting wsX7_fails := goodIn_r _ [13, 14, 20, 21, 22, 23, 24, 25, 26, 27, 28, 29, 30, 31, 32, 33, 34, 35, 36, 37, 38, 39, 40, 41, 42, 43, 44, 45, 46, 47, 48, 49, 50, 51] (by decide +kernel) (by decide +kernel)
set_option maxRecDepth 20000 in
theorem gX7_resting_X7_fails : GoodIn wsX7_resting (wsV RX7 89 RX7 yX7_fails wsX7_fails) := goodIn_app (goodIn_of _ (by decide +kernel)) ggX7_resting_X7_fails
set_option maxRecDepth 20000 in
theorem ggX7_resting_X7_rests : GoodIn wsX7_resting wsX7_rests := goodIn_r _ [18, 19, 20, 21, 22, 23, 24, 25, 26, 27, 28, 29, 30, 31, 32, 33, 34, 35, 36, 37, 38, 39, 40, 41, 42, 43, 44, 45, 46, 47, 48, 49, 50, 51] (by decide +kernel) (by decide +kernel)
set_option maxRecDepth 20000 in
theorem gX7_resting_X7_rests : GoodIn wsX7_resting (wsV RX7 166 RX7 yX7_rests wsX7_rests) := goodIn_app (goodIn_of _ (by decide +kernel)) ggX7_resting_X7_rests
set_option maxRecDepth 20000 in
theorem ggX7_strike_X7_isNoLap : GoodIn wsX7_strike wsX7_isNoLap := goodIn_r _ [8, 2, 9, 10, 7, 11, 17, 18, 19, 20, 21, 22, 23, 24, 25, 26, 27, 28, 29, 30, 31, 32, 33, 34, 35, 36, 37, 38, 39, 40, 41, 42, 43, 44, 45, 46, 47, 48] (by decide +kernel) (by decide +kernel)
set_option maxRecDepth 20000 in
theorem gX7_strike_X7_isNoLap : GoodIn wsX7_strike (wsV RX7 131 RX7 yX7_isNoLap wsX7_isNoLap) := goodIn_app (goodIn_of _ (by decide +kernel)) ggX7_strike_X7_isNoLap
set_option maxRecDepth 20000 in
theorem ggX7_strike_X7_fails : GoodIn wsX7_strike wsX7_fails := goodIn_r _ [15, 16, 17, 18, 19, 20, 21, 22, 23, 24, 25, 26, 27, 28, 29, 30, 31, 32, 33, 34, 35, 36, 37, 38, 39, 40, 41, 42, 43, 44, 45, 46, 47, 48] (by decide +kernel) (by decide +kernel)
set_option maxRecDepth 20000 in
theorem gX7_strike_X7_fails : GoodIn wsX7_strike (wsV RX7 89 RX7 yX7_fails wsX7_fails) := goodIn_app (goodIn_of _ (by decide +kernel)) ggX7_strike_X7_fails
set_option maxRecDepth 20000 in
theorem ggX7_giveBack_X7_isNoLap : GoodIn wsX7_giveBack wsX7_isNoLap := goodIn_r _ [7, 2, 8, 9, 6, 10, 16, 17, 18, 19, 20, 21, 22, 23, 24, 25, 26, 27, 28, 29, 30, 31, 32, 33, 34, 35, 36, 37, 38, 39, 40, 41, 42, 43, 44, 45, 46, 47] (by decide +kernel) (by decide +kernel)
set_option maxRecDepth 20000 in
theorem gX7_giveBack_X7_isNoLap : GoodIn wsX7_giveBack (wsV RX7 131 RX7 yX7_isNoLap wsX7_isNoLap) := goodIn_app (goodIn_of _ (by decide +kernel)) ggX7_giveBack_X7_isNoLap
set_option maxRecDepth 20000 in
theorem ggX7_giveBack_X7_fails : GoodIn wsX7_giveBack wsX7_fails := goodIn_r _ [14, 15, 16, 17, 18, 19, 20, 21, 22, 23, 24, 25, 26, 27, 28, 29, 30, 31, 32, 33, 34, 35, 36, 37, 38, 39, 40, 41, 42, 43, 44, 45, 46, 47] (by decide +kernel) (by decide +kernel)
set_option maxRecDepth 20000 in
theorem gX7_giveBack_X7_fails : GoodIn wsX7_giveBack (wsV RX7 89 RX7 yX7_fails wsX7_fails) := goodIn_app (goodIn_of _ (by decide +kernel)) ggX7_giveBack_X7_fails
set_option maxRecDepth 20000 in
theorem ggX7_stands_X7_isNoLap : GoodIn wsX7_stands wsX7_isNoLap := goodIn_r _ [6, 7, 8, 9, 5, 10, 16, 17, 18, 19, 20, 21, 22, 23, 24, 25, 26, 27, 28, 29, 30, 31, 32, 33, 34, 35, 36, 37, 38, 39, 40, 41, 42, 43, 44, 45, 46, 47] (by decide +kernel) (by decide +kernel)
set_option maxRecDepth 20000 in
theorem gX7_stands_X7_isNoLap : GoodIn wsX7_stands (wsV RX7 131 RX7 yX7_isNoLap wsX7_isNoLap) := goodIn_app (goodIn_of _ (by decide +kernel)) ggX7_stands_X7_isNoLap
set_option maxRecDepth 20000 in
theorem ggX7_stands_X7_fails : GoodIn wsX7_stands wsX7_fails := goodIn_r _ [14, 15, 16, 17, 18, 19, 20, 21, 22, 23, 24, 25, 26, 27, 28, 29, 30, 31, 32, 33, 34, 35, 36, 37, 38, 39, 40, 41, 42, 43, 44, 45, 46, 47] (by decide +kernel) (by decide +kernel)
set_option maxRecDepth 20000 in
theorem gX7_stands_X7_fails : GoodIn wsX7_stands (wsV RX7 89 RX7 yX7_fails wsX7_fails) := goodIn_app (goodIn_of _ (by decide +kernel)) ggX7_stands_X7_fails
set_option maxRecDepth 20000 in
theorem ggX7_penalty_X7_isNoLap : GoodIn wsX7_penalty wsX7_isNoLap := goodIn_r _ [6, 7, 8, 9, 5, 10, 16, 17, 18, 19, 20, 21, 22, 23, 24, 25, 26, 27, 28, 29, 30, 31, 32, 33, 34, 35, 36, 37, 38, 39, 40, 41, 42, 43, 44, 45, 46, 47] (by decide +kernel) (by decide +kernel)
set_option maxRecDepth 20000 in
theorem gX7_penalty_X7_isNoLap : GoodIn wsX7_penalty (wsV RX7 131 RX7 yX7_isNoLap wsX7_isNoLap) := goodIn_app (goodIn_of _ (by decide +kernel)) ggX7_penalty_X7_isNoLap
set_option maxRecDepth 20000 in
theorem ggX7_penalty_X7_in : GoodIn wsX7_penalty wsX7_in := goodIn_r _ [10] (by decide +kernel) (by decide +kernel)
set_option maxRecDepth 20000 in
theorem gX7_penalty_X7_in : GoodIn wsX7_penalty (va_wsS RX7 79 yX7_in wsX7_in) := goodIn_app (goodIn_of _ (by decide +kernel)) ggX7_penalty_X7_in
set_option maxRecDepth 20000 in
theorem ggX7_penalty_X7_fails : GoodIn wsX7_penalty wsX7_fails := goodIn_r _ [14, 15, 16, 17, 18, 19, 20, 21, 22, 23, 24, 25, 26, 27, 28, 29, 30, 31, 32, 33, 34, 35, 36, 37, 38, 39, 40, 41, 42, 43, 44, 45, 46, 47] (by decide +kernel) (by decide +kernel)
set_option maxRecDepth 20000 in
theorem gX7_penalty_X7_fails : GoodIn wsX7_penalty (wsV RX7 89 RX7 yX7_fails wsX7_fails) := goodIn_app (goodIn_of _ (by decide +kernel)) ggX7_penalty_X7_fails
set_option maxRecDepth 20000 in
theorem ggX7_round_X7_isNoTrack : GoodIn wsX7_round wsX7_isNoTrack := goodIn_r _ [8, 9, 10, 11, 7, 12, 18, 19, 20, 21, 22, 23, 24, 25, 26, 27, 28, 29, 30, 31, 32, 33, 34, 35, 36, 37, 38, 39, 40, 41, 42, 43, 44, 45, 46, 47, 48, 49] (by decide +kernel) (by decide +kernel)
set_option maxRecDepth 20000 in
theorem gX7_round_X7_isNoTrack : GoodIn wsX7_round (wsV RX7 93 RX7 yX7_isNoTrack wsX7_isNoTrack) := goodIn_app (goodIn_of _ (by decide +kernel)) ggX7_round_X7_isNoTrack
set_option maxRecDepth 20000 in
theorem ggX7_round_X7_fails : GoodIn wsX7_round wsX7_fails := goodIn_r _ [16, 17, 18, 19, 20, 21, 22, 23, 24, 25, 26, 27, 28, 29, 30, 31, 32, 33, 34, 35, 36, 37, 38, 39, 40, 41, 42, 43, 44, 45, 46, 47, 48, 49] (by decide +kernel) (by decide +kernel)
set_option maxRecDepth 20000 in
theorem gX7_round_X7_fails : GoodIn wsX7_round (wsV RX7 89 RX7 yX7_fails wsX7_fails) := goodIn_app (goodIn_of _ (by decide +kernel)) ggX7_round_X7_fails
set_option maxRecDepth 20000 in
theorem ggX7_shut_X7_fails : GoodIn wsX7_shut wsX7_fails := goodIn_r _ [7, 8, 9, 10, 11, 12, 13, 14, 15, 16, 17, 18, 19, 20, 21, 22, 23, 24, 25, 26, 27, 28, 29, 30, 31, 32, 33, 34, 35, 36, 37, 38, 39, 40] (by decide +kernel) (by decide +kernel)
set_option maxRecDepth 20000 in
theorem gX7_shut_X7_fails : GoodIn wsX7_shut (wsV RX7 89 RX7 yX7_fails wsX7_fails) := goodIn_app (goodIn_of _ (by decide +kernel)) ggX7_shut_X7_fails
set_option maxRecDepth 20000 in
theorem ggX7_lapNow_X7_countOf : GoodIn wsX7_lapNow wsX7_countOf := goodIn_r _ [9, 10, 11, 12, 13, 14, 15, 16, 17, 18, 19, 20, 21, 22, 23, 24, 25, 26, 27, 28, 29, 30, 31, 32, 33, 34, 35, 36, 37, 38, 39, 40, 41, 42, 43] (by decide +kernel) (by decide +kernel)
set_option maxRecDepth 20000 in
theorem gX7_lapNow_X7_countOf : GoodIn wsX7_lapNow (wsV RX7 156 RX7 yX7_countOf wsX7_countOf) := goodIn_app (goodIn_of _ (by decide +kernel)) ggX7_lapNow_X7_countOf
set_option maxRecDepth 20000 in
theorem ggX7_isNoSeat_X7_in : GoodIn wsX7_isNoSeat wsX7_in := goodIn_r _ [5] (by decide +kernel) (by decide +kernel)
set_option maxRecDepth 20000 in
theorem gX7_isNoSeat_X7_in : GoodIn wsX7_isNoSeat (va_wsS RX7 79 yX7_in wsX7_in) := goodIn_app (goodIn_of _ (by decide +kernel)) ggX7_isNoSeat_X7_in
set_option maxRecDepth 20000 in
theorem ggX7_lapIn_X7_lapNow : GoodIn wsX7_lapIn wsX7_lapNow := goodIn_r _ [5, 6, 7, 8, 9, 10, 11, 12, 4, 13, 14, 15, 29, 30, 31, 32, 33, 34, 35, 36, 37, 38, 39, 40, 41, 42, 43, 44, 45, 46, 47, 48, 49, 50, 51, 52, 53, 54, 55, 56, 57, 58, 59, 60] (by decide +kernel) (by decide +kernel)
set_option maxRecDepth 20000 in
theorem gX7_lapIn_X7_lapNow : GoodIn wsX7_lapIn (wsV RX7 169 RX7 yX7_lapNow wsX7_lapNow) := goodIn_app (goodIn_of _ (by decide +kernel)) ggX7_lapIn_X7_lapNow
set_option maxRecDepth 20000 in
theorem ggX7_lapIn_X7_isNoSeat : GoodIn wsX7_lapIn wsX7_isNoSeat := goodIn_r _ [19, 20, 21, 22, 4, 23, 29, 30, 31, 32, 33, 34, 35, 36, 37, 38, 39, 40, 41, 42, 43, 44, 45, 46, 47, 48, 49, 50, 51, 52, 53, 54, 55, 56, 57, 58, 59, 60] (by decide +kernel) (by decide +kernel)
set_option maxRecDepth 20000 in
theorem gX7_lapIn_X7_isNoSeat : GoodIn wsX7_lapIn (wsV RX7 172 RX7 yX7_isNoSeat wsX7_isNoSeat) := goodIn_app (goodIn_of _ (by decide +kernel)) ggX7_lapIn_X7_isNoSeat
set_option maxRecDepth 20000 in
theorem ggX7_lapIn_X7_fails : GoodIn wsX7_lapIn wsX7_fails := goodIn_r _ [27, 28, 29, 30, 31, 32, 33, 34, 35, 36, 37, 38, 39, 40, 41, 42, 43, 44, 45, 46, 47, 48, 49, 50, 51, 52, 53, 54, 55, 56, 57, 58, 59, 60] (by decide +kernel) (by decide +kernel)
set_option maxRecDepth 20000 in
theorem gX7_lapIn_X7_fails : GoodIn wsX7_lapIn (wsV RX7 89 RX7 yX7_fails wsX7_fails) := goodIn_app (goodIn_of _ (by decide +kernel)) ggX7_lapIn_X7_fails
set_option maxRecDepth 20000 in
theorem ggX7_placeNow_X7_lapNow : GoodIn wsX7_placeNow wsX7_lapNow := goodIn_r _ [5, 6, 7, 8, 9, 10, 11, 12, 4, 13, 14, 15, 16, 17, 18, 19, 20, 21, 22, 23, 24, 25, 26, 27, 28, 29, 30, 31, 32, 33, 34, 35, 36, 37, 38, 39, 40, 41, 42, 43, 44, 45, 46, 47] (by decide +kernel) (by decide +kernel)
set_option maxRecDepth 20000 in
theorem gX7_placeNow_X7_lapNow : GoodIn wsX7_placeNow (wsV RX7 169 RX7 yX7_lapNow wsX7_lapNow) := goodIn_app (goodIn_of _ (by decide +kernel)) ggX7_placeNow_X7_lapNow
set_option maxRecDepth 20000 in
theorem ggX7_placeNow_X7_countOf : GoodIn wsX7_placeNow wsX7_countOf := goodIn_r _ [13, 14, 15, 16, 17, 18, 19, 20, 21, 22, 23, 24, 25, 26, 27, 28, 29, 30, 31, 32, 33, 34, 35, 36, 37, 38, 39, 40, 41, 42, 43, 44, 45, 46, 47] (by decide +kernel) (by decide +kernel)
set_option maxRecDepth 20000 in
theorem gX7_placeNow_X7_countOf : GoodIn wsX7_placeNow (wsV RX7 156 RX7 yX7_countOf wsX7_countOf) := goodIn_app (goodIn_of _ (by decide +kernel)) ggX7_placeNow_X7_countOf
set_option maxRecDepth 20000 in
theorem ggX7_placeIn_X7_isNoSeat : GoodIn wsX7_placeIn wsX7_isNoSeat := goodIn_r _ [5, 6, 7, 8, 4, 9, 33, 34, 35, 36, 37, 38, 39, 40, 41, 42, 43, 44, 45, 46, 47, 48, 49, 50, 51, 52, 53, 54, 55, 56, 57, 58, 59, 60, 61, 62, 63, 64] (by decide +kernel) (by decide +kernel)
set_option maxRecDepth 20000 in
theorem gX7_placeIn_X7_isNoSeat : GoodIn wsX7_placeIn (wsV RX7 172 RX7 yX7_isNoSeat wsX7_isNoSeat) := goodIn_app (goodIn_of _ (by decide +kernel)) ggX7_placeIn_X7_isNoSeat
set_option maxRecDepth 20000 in
theorem ggX7_placeIn_X7_placeNow : GoodIn wsX7_placeIn wsX7_placeNow := goodIn_r _ [13, 14, 15, 16, 4, 17, 18, 19, 20, 21, 22, 23, 24, 25, 26, 27, 33, 34, 35, 36, 37, 38, 39, 40, 41, 42, 43, 44, 45, 46, 47, 48, 49, 50, 51, 52, 53, 54, 55, 56, 57, 58, 59, 60, 61, 62, 63, 64] (by decide +kernel) (by decide +kernel)
set_option maxRecDepth 20000 in
theorem gX7_placeIn_X7_placeNow : GoodIn wsX7_placeIn (wsV RX7 175 RX7 yX7_placeNow wsX7_placeNow) := goodIn_app (goodIn_of _ (by decide +kernel)) ggX7_placeIn_X7_placeNow
set_option maxRecDepth 20000 in
theorem ggX7_placeIn_X7_fails : GoodIn wsX7_placeIn wsX7_fails := goodIn_r _ [31, 32, 33, 34, 35, 36, 37, 38, 39, 40, 41, 42, 43, 44, 45, 46, 47, 48, 49, 50, 51, 52, 53, 54, 55, 56, 57, 58, 59, 60, 61, 62, 63, 64] (by decide +kernel) (by decide +kernel)
set_option maxRecDepth 20000 in
theorem gX7_placeIn_X7_fails : GoodIn wsX7_placeIn (wsV RX7 89 RX7 yX7_fails wsX7_fails) := goodIn_app (goodIn_of _ (by decide +kernel)) ggX7_placeIn_X7_fails
set_option maxRecDepth 20000 in
theorem ggX7_drop_X7_in : GoodIn wsX7_drop wsX7_in := goodIn_r _ [5] (by decide +kernel) (by decide +kernel)
set_option maxRecDepth 20000 in
theorem gX7_drop_X7_in : GoodIn wsX7_drop (va_wsS RX7 79 yX7_in wsX7_in) := goodIn_app (goodIn_of _ (by decide +kernel)) ggX7_drop_X7_in
set_option maxRecDepth 20000 in
theorem ggX7_drop_X7_fails : GoodIn wsX7_drop wsX7_fails := goodIn_r _ [9, 10, 11, 12, 13, 14, 15, 16, 17, 18, 19, 20, 21, 22, 23, 24, 25, 26, 27, 28, 29, 30, 31, 32, 33, 34, 35, 36, 37, 38, 39, 40, 41, 42] (by decide +kernel) (by decide +kernel)
set_option maxRecDepth 20000 in
theorem gX7_drop_X7_fails : GoodIn wsX7_drop (wsV RX7 89 RX7 yX7_fails wsX7_fails) := goodIn_app (goodIn_of _ (by decide +kernel)) ggX7_drop_X7_fails
set_option maxRecDepth 20000 in
theorem ggX7_pointsOf_X7_placeNow : GoodIn wsX7_pointsOf wsX7_placeNow := goodIn_r _ [8, 9, 10, 11, 7, 12, 13, 14, 15, 16, 17, 18, 19, 20, 21, 22, 26, 27, 28, 29, 30, 31, 32, 33, 34, 35, 36, 37, 38, 39, 40, 41, 42, 43, 44, 45, 46, 47, 48, 49, 50, 51, 52, 53, 54, 55, 56, 57] (by decide +kernel) (by decide +kernel)
set_option maxRecDepth 20000 in
theorem gX7_pointsOf_X7_placeNow : GoodIn wsX7_pointsOf (wsV RX7 175 RX7 yX7_placeNow wsX7_placeNow) := goodIn_app (goodIn_of _ (by decide +kernel)) ggX7_pointsOf_X7_placeNow
set_option maxRecDepth 20000 in
theorem ggX7_pointsOf_X7_worth : GoodIn wsX7_pointsOf wsX7_worth := goodIn_r _ [25] (by decide +kernel) (by decide +kernel)
set_option maxRecDepth 20000 in
theorem gX7_pointsOf_X7_worth : GoodIn wsX7_pointsOf (va_wsS RX7 181 yX7_worth wsX7_worth) := goodIn_app (goodIn_of _ (by decide +kernel)) ggX7_pointsOf_X7_worth
set_option maxRecDepth 20000 in
theorem ggX7_winsOf_X7_placeNow : GoodIn wsX7_winsOf wsX7_placeNow := goodIn_r _ [6, 7, 8, 9, 5, 10, 11, 12, 13, 14, 15, 16, 17, 18, 19, 20, 21, 22, 23, 24, 25, 26, 27, 28, 29, 30, 31, 32, 33, 34, 35, 36, 37, 38, 39, 40, 41, 42, 43, 44, 45, 46, 47, 48, 49, 50, 51, 52] (by decide +kernel) (by decide +kernel)
set_option maxRecDepth 20000 in
theorem gX7_winsOf_X7_placeNow : GoodIn wsX7_winsOf (wsV RX7 175 RX7 yX7_placeNow wsX7_placeNow) := goodIn_app (goodIn_of _ (by decide +kernel)) ggX7_winsOf_X7_placeNow
set_option maxRecDepth 20000 in
theorem ggX7_isNoDriver_X7_in : GoodIn wsX7_isNoDriver wsX7_in := goodIn_r _ [4] (by decide +kernel) (by decide +kernel)
set_option maxRecDepth 20000 in
theorem gX7_isNoDriver_X7_in : GoodIn wsX7_isNoDriver (va_wsS RX7 79 yX7_in wsX7_in) := goodIn_app (goodIn_of _ (by decide +kernel)) ggX7_isNoDriver_X7_in
set_option maxRecDepth 20000 in
theorem ggX7_points_X7_isNoDriver : GoodIn wsX7_points wsX7_isNoDriver := goodIn_r _ [4, 5, 6, 3, 7] (by decide +kernel) (by decide +kernel)
set_option maxRecDepth 20000 in
theorem gX7_points_X7_isNoDriver : GoodIn wsX7_points (va_wsS RX7 184 yX7_isNoDriver wsX7_isNoDriver) := goodIn_app (goodIn_of _ (by decide +kernel)) ggX7_points_X7_isNoDriver
set_option maxRecDepth 20000 in
theorem ggX7_points_X7_fails : GoodIn wsX7_points wsX7_fails := goodIn_r _ [11, 12, 41, 42, 43, 44, 45, 46, 47, 48, 49, 50, 51, 52, 53, 54, 55, 56, 57, 58, 59, 60, 61, 62, 63, 64, 65, 66, 67, 68, 69, 70, 71, 72] (by decide +kernel) (by decide +kernel)
set_option maxRecDepth 20000 in
theorem gX7_points_X7_fails : GoodIn wsX7_points (wsV RX7 89 RX7 yX7_fails wsX7_fails) := goodIn_app (goodIn_of _ (by decide +kernel)) ggX7_points_X7_fails
set_option maxRecDepth 20000 in
theorem ggX7_points_X7_pointsOf : GoodIn wsX7_points wsX7_pointsOf := goodIn_r _ [16, 17, 18, 19, 20, 21, 22, 3, 23, 24, 25, 26, 27, 28, 29, 30, 31, 32, 33, 34, 35, 36, 37, 38, 39, 40, 41, 42, 43, 44, 45, 46, 47, 48, 49, 50, 51, 52, 53, 54, 55, 56, 57, 58, 59, 60, 61, 62, 63, 64, 65, 66, 67, 68, 69, 70, 71, 72] (by decide +kernel) (by decide +kernel)
set_option maxRecDepth 20000 in
theorem gX7_points_X7_pointsOf : GoodIn wsX7_points (wsV RX7 187 RX7 yX7_pointsOf wsX7_pointsOf) := goodIn_app (goodIn_of _ (by decide +kernel)) ggX7_points_X7_pointsOf
set_option maxRecDepth 20000 in
theorem ggX7_wins_X7_isNoDriver : GoodIn wsX7_wins wsX7_isNoDriver := goodIn_r _ [4, 5, 6, 3, 7] (by decide +kernel) (by decide +kernel)
set_option maxRecDepth 20000 in
theorem gX7_wins_X7_isNoDriver : GoodIn wsX7_wins (va_wsS RX7 184 yX7_isNoDriver wsX7_isNoDriver) := goodIn_app (goodIn_of _ (by decide +kernel)) ggX7_wins_X7_isNoDriver
set_option maxRecDepth 20000 in
theorem ggX7_wins_X7_fails : GoodIn wsX7_wins wsX7_fails := goodIn_r _ [11, 12, 36, 37, 38, 39, 40, 41, 42, 43, 44, 45, 46, 47, 48, 49, 50, 51, 52, 53, 54, 55, 56, 57, 58, 59, 60, 61, 62, 63, 64, 65, 66, 67] (by decide +kernel) (by decide +kernel)
set_option maxRecDepth 20000 in
theorem gX7_wins_X7_fails : GoodIn wsX7_wins (wsV RX7 89 RX7 yX7_fails wsX7_fails) := goodIn_app (goodIn_of _ (by decide +kernel)) ggX7_wins_X7_fails
set_option maxRecDepth 20000 in
theorem ggX7_wins_X7_winsOf : GoodIn wsX7_wins wsX7_winsOf := goodIn_r _ [16, 17, 18, 19, 20, 3, 21, 22, 23, 24, 25, 26, 27, 28, 29, 30, 31, 32, 33, 34, 35, 36, 37, 38, 39, 40, 41, 42, 43, 44, 45, 46, 47, 48, 49, 50, 51, 52, 53, 54, 55, 56, 57, 58, 59, 60, 61, 62, 63, 64, 65, 66, 67] (by decide +kernel) (by decide +kernel)
set_option maxRecDepth 20000 in
theorem gX7_wins_X7_winsOf : GoodIn wsX7_wins (wsV RX7 190 RX7 yX7_winsOf wsX7_winsOf) := goodIn_app (goodIn_of _ (by decide +kernel)) ggX7_wins_X7_winsOf
set_option maxRecDepth 20000 in
theorem ggX7_standing_X7_isNoDriver : GoodIn wsX7_standing wsX7_isNoDriver := goodIn_r _ [4, 5, 6, 3, 7] (by decide +kernel) (by decide +kernel)
set_option maxRecDepth 20000 in
theorem gX7_standing_X7_isNoDriver : GoodIn wsX7_standing (va_wsS RX7 184 yX7_isNoDriver wsX7_isNoDriver) := goodIn_app (goodIn_of _ (by decide +kernel)) ggX7_standing_X7_isNoDriver
set_option maxRecDepth 20000 in
theorem ggX7_standing_X7_fails : GoodIn wsX7_standing wsX7_fails := goodIn_r _ [11, 12, 45, 46, 47, 48, 49, 50, 51, 52, 53, 54, 55, 56, 57, 58, 59, 60, 61, 62, 63, 64, 65, 66, 67, 68, 69, 70, 71, 72, 73, 74, 75, 76] (by decide +kernel) (by decide +kernel)
set_option maxRecDepth 20000 in
theorem gX7_standing_X7_fails : GoodIn wsX7_standing (wsV RX7 89 RX7 yX7_fails wsX7_fails) := goodIn_app (goodIn_of _ (by decide +kernel)) ggX7_standing_X7_fails
set_option maxRecDepth 20000 in
theorem ggX7_standing_X7_pointsOf : GoodIn wsX7_standing wsX7_pointsOf := goodIn_r _ [16, 17, 18, 19, 20, 21, 22, 3, 23, 24, 25, 26, 27, 28, 29, 30, 31, 32, 33, 34, 35, 36, 37, 38, 39, 40, 45, 46, 47, 48, 49, 50, 51, 52, 53, 54, 55, 56, 57, 58, 59, 60, 61, 62, 63, 64, 65, 66, 67, 68, 69, 70, 71, 72, 73, 74, 75, 76] (by decide +kernel) (by decide +kernel)
set_option maxRecDepth 20000 in
theorem gX7_standing_X7_pointsOf : GoodIn wsX7_standing (wsV RX7 187 RX7 yX7_pointsOf wsX7_pointsOf) := goodIn_app (goodIn_of _ (by decide +kernel)) ggX7_standing_X7_pointsOf
set_option maxRecDepth 20000 in
theorem ggX7_standing_X7_winsOf : GoodIn wsX7_standing wsX7_winsOf := goodIn_r _ [44, 17, 20, 21, 22, 3, 23, 24, 25, 26, 27, 28, 29, 30, 31, 32, 33, 34, 35, 36, 37, 45, 46, 47, 48, 49, 50, 51, 52, 53, 54, 55, 56, 57, 58, 59, 60, 61, 62, 63, 64, 65, 66, 67, 68, 69, 70, 71, 72, 73, 74, 75, 76] (by decide +kernel) (by decide +kernel)
set_option maxRecDepth 20000 in
theorem gX7_standing_X7_winsOf : GoodIn wsX7_standing (wsV RX7 190 RX7 yX7_winsOf wsX7_winsOf) := goodIn_app (goodIn_of _ (by decide +kernel)) ggX7_standing_X7_winsOf
set_option maxRecDepth 20000 in
theorem ggX7_checksum_X7_partsOf : GoodIn wsX7_checksum wsX7_partsOf := goodIn_r _ [12, 13, 14, 15, 16, 17, 18, 19, 20, 21, 22, 23, 24, 25, 26, 27, 28, 29, 30, 31, 32, 33, 34, 35, 36, 37, 38, 39, 40, 41, 42, 43, 44, 45, 46, 47] (by decide +kernel) (by decide +kernel)
set_option maxRecDepth 20000 in
theorem gX7_checksum_X7_partsOf : GoodIn wsX7_checksum (wsV RX7 159 RX7 yX7_partsOf wsX7_partsOf) := goodIn_app (goodIn_of _ (by decide +kernel)) ggX7_checksum_X7_partsOf
set_option maxRecDepth 20000 in
theorem ggX7_shareStored_X7_fails : GoodIn wsX7_shareStored wsX7_fails := goodIn_r _ [7, 8, 19, 20, 21, 22, 23, 24, 25, 26, 27, 28, 29, 30, 31, 32, 33, 34, 35, 36, 37, 38, 39, 40, 41, 42, 43, 44, 45, 46, 47, 48, 49, 50] (by decide +kernel) (by decide +kernel)
set_option maxRecDepth 20000 in
theorem gX7_shareStored_X7_fails : GoodIn wsX7_shareStored (wsV RX7 89 RX7 yX7_fails wsX7_fails) := goodIn_app (goodIn_of _ (by decide +kernel)) ggX7_shareStored_X7_fails
set_option maxRecDepth 20000 in
theorem ggX7_shareStored_X7_allParts : GoodIn wsX7_shareStored wsX7_allParts := goodIn_r _ [12, 1, 13, 14, 15, 6, 16, 17, 2, 18, 19, 20, 21, 22, 23, 24, 25, 26, 27, 28, 29, 30, 31, 32, 33, 34, 35, 36, 37, 38, 39, 40, 41, 42, 43, 44, 45, 46, 47, 48, 49, 50] (by decide +kernel) (by decide +kernel)
set_option maxRecDepth 20000 in
theorem gX7_shareStored_X7_allParts : GoodIn wsX7_shareStored (wsV RX7 162 RX7 yX7_allParts wsX7_allParts) := goodIn_app (goodIn_of _ (by decide +kernel)) ggX7_shareStored_X7_allParts
set_option maxRecDepth 20000 in
theorem ggX7_meanTime_X7_countOf : GoodIn wsX7_meanTime wsX7_countOf := goodIn_r _ [7, 8, 9, 15, 16, 17, 18, 19, 20, 21, 22, 23, 24, 25, 26, 27, 28, 29, 30, 31, 32, 33, 34, 35, 36, 37, 38, 39, 40, 41, 42, 43, 44, 45, 46] (by decide +kernel) (by decide +kernel)
set_option maxRecDepth 20000 in
theorem gX7_meanTime_X7_countOf : GoodIn wsX7_meanTime (wsV RX7 156 RX7 yX7_countOf wsX7_countOf) := goodIn_app (goodIn_of _ (by decide +kernel)) ggX7_meanTime_X7_countOf
set_option maxRecDepth 20000 in
theorem ggX7_meanTime_X7_fails : GoodIn wsX7_meanTime wsX7_fails := goodIn_r _ [13, 14, 15, 16, 17, 18, 19, 20, 21, 22, 23, 24, 25, 26, 27, 28, 29, 30, 31, 32, 33, 34, 35, 36, 37, 38, 39, 40, 41, 42, 43, 44, 45, 46] (by decide +kernel) (by decide +kernel)
set_option maxRecDepth 20000 in
theorem gX7_meanTime_X7_fails : GoodIn wsX7_meanTime (wsV RX7 89 RX7 yX7_fails wsX7_fails) := goodIn_app (goodIn_of _ (by decide +kernel)) ggX7_meanTime_X7_fails
