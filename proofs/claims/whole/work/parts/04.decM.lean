theorem dX7_init_0 : decode cX7_init 0 = .ok (.aload_n 0, 1) := by decide +kernel
theorem dX7_init_1 : decode cX7_init 1 = .ok (.invokespecial 1, 3) := by decide +kernel
theorem dX7_init_4 : decode cX7_init 4 = .ok (.aload_n 0, 1) := by decide +kernel
theorem dX7_init_5 : decode cX7_init 5 = .ok (.iconst 4, 1) := by decide +kernel
theorem dX7_init_6 : decode cX7_init 6 = .ok (.newarray .int, 2) := by decide +kernel
theorem dX7_init_8 : decode cX7_init 8 = .ok (.putfield 7, 3) := by decide +kernel
theorem dX7_init_11 : decode cX7_init 11 = .ok (.aload_n 0, 1) := by decide +kernel
theorem dX7_init_12 : decode cX7_init 12 = .ok (.bipush 48, 2) := by decide +kernel
theorem dX7_init_14 : decode cX7_init 14 = .ok (.newarray .int, 2) := by decide +kernel
theorem dX7_init_16 : decode cX7_init 16 = .ok (.putfield 13, 3) := by decide +kernel
theorem dX7_init_19 : decode cX7_init 19 = .ok (.aload_n 0, 1) := by decide +kernel
theorem dX7_init_20 : decode cX7_init 20 = .ok (.bipush 48, 2) := by decide +kernel
theorem dX7_init_22 : decode cX7_init 22 = .ok (.newarray .int, 2) := by decide +kernel
theorem dX7_init_24 : decode cX7_init 24 = .ok (.putfield 16, 3) := by decide +kernel
theorem dX7_init_27 : decode cX7_init 27 = .ok (.aload_n 0, 1) := by decide +kernel
theorem dX7_init_28 : decode cX7_init 28 = .ok (.iconst 4, 1) := by decide +kernel
theorem dX7_init_29 : decode cX7_init 29 = .ok (.newarray .int, 2) := by decide +kernel
theorem dX7_init_31 : decode cX7_init 31 = .ok (.putfield 19, 3) := by decide +kernel
theorem dX7_init_34 : decode cX7_init 34 = .ok (.aload_n 0, 1) := by decide +kernel
theorem dX7_init_35 : decode cX7_init 35 = .ok (.iconst 4, 1) := by decide +kernel
theorem dX7_init_36 : decode cX7_init 36 = .ok (.newarray .int, 2) := by decide +kernel
theorem dX7_init_38 : decode cX7_init 38 = .ok (.putfield 22, 3) := by decide +kernel
theorem dX7_init_41 : decode cX7_init 41 = .ok (.aload_n 0, 1) := by decide +kernel
theorem dX7_init_42 : decode cX7_init 42 = .ok (.iconst 4, 1) := by decide +kernel
theorem dX7_init_43 : decode cX7_init 43 = .ok (.newarray .int, 2) := by decide +kernel
theorem dX7_init_45 : decode cX7_init 45 = .ok (.putfield 25, 3) := by decide +kernel
theorem dX7_init_48 : decode cX7_init 48 = .ok (.aload_n 0, 1) := by decide +kernel
theorem dX7_init_49 : decode cX7_init 49 = .ok (.bipush 60, 2) := by decide +kernel
theorem dX7_init_51 : decode cX7_init 51 = .ok (.newarray .char, 2) := by decide +kernel
theorem dX7_init_53 : decode cX7_init 53 = .ok (.putfield 28, 3) := by decide +kernel
theorem dX7_init_56 : decode cX7_init 56 = .ok (.aload_n 0, 1) := by decide +kernel
theorem dX7_init_57 : decode cX7_init 57 = .ok (.sipush 1800, 3) := by decide +kernel
theorem dX7_init_60 : decode cX7_init 60 = .ok (.newarray .char, 2) := by decide +kernel
theorem dX7_init_62 : decode cX7_init 62 = .ok (.putfield 32, 3) := by decide +kernel
theorem dX7_init_65 : decode cX7_init 65 = .ok (.aload_n 0, 1) := by decide +kernel
theorem dX7_init_66 : decode cX7_init 66 = .ok (.bipush 30, 2) := by decide +kernel
theorem dX7_init_68 : decode cX7_init 68 = .ok (.newarray .int, 2) := by decide +kernel
theorem dX7_init_70 : decode cX7_init 70 = .ok (.putfield 35, 3) := by decide +kernel
theorem dX7_init_73 : decode cX7_init 73 = .ok (.aload_n 0, 1) := by decide +kernel
theorem dX7_init_74 : decode cX7_init 74 = .ok (.bipush 30, 2) := by decide +kernel
theorem dX7_init_76 : decode cX7_init 76 = .ok (.newarray .int, 2) := by decide +kernel
theorem dX7_init_78 : decode cX7_init 78 = .ok (.putfield 38, 3) := by decide +kernel
theorem dX7_init_81 : decode cX7_init 81 = .ok (.aload_n 0, 1) := by decide +kernel
theorem dX7_init_82 : decode cX7_init 82 = .ok (.bipush 30, 2) := by decide +kernel
theorem dX7_init_84 : decode cX7_init 84 = .ok (.newarray .int, 2) := by decide +kernel
theorem dX7_init_86 : decode cX7_init 86 = .ok (.putfield 41, 3) := by decide +kernel
theorem dX7_init_89 : decode cX7_init 89 = .ok (.aload_n 0, 1) := by decide +kernel
theorem dX7_init_90 : decode cX7_init 90 = .ok (.bipush 30, 2) := by decide +kernel
theorem dX7_init_92 : decode cX7_init 92 = .ok (.newarray .int, 2) := by decide +kernel
theorem dX7_init_94 : decode cX7_init 94 = .ok (.putfield 44, 3) := by decide +kernel
theorem dX7_init_97 : decode cX7_init 97 = .ok (.aload_n 0, 1) := by decide +kernel
theorem dX7_init_98 : decode cX7_init 98 = .ok (.bipush 30, 2) := by decide +kernel
theorem dX7_init_100 : decode cX7_init 100 = .ok (.newarray .int, 2) := by decide +kernel
theorem dX7_init_102 : decode cX7_init 102 = .ok (.putfield 47, 3) := by decide +kernel
theorem dX7_init_105 : decode cX7_init 105 = .ok (.aload_n 0, 1) := by decide +kernel
theorem dX7_init_106 : decode cX7_init 106 = .ok (.bipush 30, 2) := by decide +kernel
theorem dX7_init_108 : decode cX7_init 108 = .ok (.newarray .int, 2) := by decide +kernel
theorem dX7_init_110 : decode cX7_init 110 = .ok (.putfield 50, 3) := by decide +kernel
theorem dX7_init_113 : decode cX7_init 113 = .ok (.aload_n 0, 1) := by decide +kernel
theorem dX7_init_114 : decode cX7_init 114 = .ok (.bipush 30, 2) := by decide +kernel
theorem dX7_init_116 : decode cX7_init 116 = .ok (.newarray .int, 2) := by decide +kernel
theorem dX7_init_118 : decode cX7_init 118 = .ok (.putfield 53, 3) := by decide +kernel
theorem dX7_init_121 : decode cX7_init 121 = .ok (.aload_n 0, 1) := by decide +kernel
theorem dX7_init_122 : decode cX7_init 122 = .ok (.bipush 30, 2) := by decide +kernel
theorem dX7_init_124 : decode cX7_init 124 = .ok (.newarray .int, 2) := by decide +kernel
theorem dX7_init_126 : decode cX7_init 126 = .ok (.putfield 56, 3) := by decide +kernel
theorem dX7_init_129 : decode cX7_init 129 = .ok (.aload_n 0, 1) := by decide +kernel
theorem dX7_init_130 : decode cX7_init 130 = .ok (.bipush 30, 2) := by decide +kernel
theorem dX7_init_132 : decode cX7_init 132 = .ok (.newarray .int, 2) := by decide +kernel
theorem dX7_init_134 : decode cX7_init 134 = .ok (.putfield 59, 3) := by decide +kernel
theorem dX7_init_137 : decode cX7_init 137 = .ok (.aload_n 0, 1) := by decide +kernel
theorem dX7_init_138 : decode cX7_init 138 = .ok (.bipush 30, 2) := by decide +kernel
theorem dX7_init_140 : decode cX7_init 140 = .ok (.newarray .boolean, 2) := by decide +kernel
theorem dX7_init_142 : decode cX7_init 142 = .ok (.putfield 62, 3) := by decide +kernel
theorem dX7_init_145 : decode cX7_init 145 = .ok (.aload_n 0, 1) := by decide +kernel
theorem dX7_init_146 : decode cX7_init 146 = .ok (.bipush 10, 2) := by decide +kernel
theorem dX7_init_148 : decode cX7_init 148 = .ok (.newarray .int, 2) := by decide +kernel
theorem dX7_init_150 : decode cX7_init 150 = .ok (.putfield 66, 3) := by decide +kernel
theorem dX7_init_153 : decode cX7_init 153 = .ok (.aload_n 0, 1) := by decide +kernel
theorem dX7_init_154 : decode cX7_init 154 = .ok (.bipush 10, 2) := by decide +kernel
theorem dX7_init_156 : decode cX7_init 156 = .ok (.newarray .int, 2) := by decide +kernel
theorem dX7_init_158 : decode cX7_init 158 = .ok (.putfield 69, 3) := by decide +kernel
theorem dX7_init_161 : decode cX7_init 161 = .ok (.return_, 1) := by decide +kernel
theorem dX7_thrown_0 : decode cX7_thrown 0 = .ok (.aload_n 0, 1) := by decide +kernel
theorem dX7_thrown_1 : decode cX7_thrown 1 = .ok (.getfield 72, 3) := by decide +kernel
theorem dX7_thrown_4 : decode cX7_thrown 4 = .ok (.ireturn, 1) := by decide +kernel
theorem dX7_fails_0 : decode cX7_fails 0 = .ok (.aload_n 0, 1) := by decide +kernel
theorem dX7_fails_1 : decode cX7_fails 1 = .ok (.iload_n 1, 1) := by decide +kernel
theorem dX7_fails_2 : decode cX7_fails 2 = .ok (.putfield 72, 3) := by decide +kernel
theorem dX7_fails_5 : decode cX7_fails 5 = .ok (.iload_n 1, 1) := by decide +kernel
theorem dX7_fails_6 : decode cX7_fails 6 = .ok (.ifCond .le 7, 3) := by decide +kernel
theorem dX7_fails_9 : decode cX7_fails 9 = .ok (.iconst 1, 1) := by decide +kernel
theorem dX7_fails_10 : decode cX7_fails 10 = .ok (.goto 4, 3) := by decide +kernel
theorem dX7_fails_13 : decode cX7_fails 13 = .ok (.iconst 0, 1) := by decide +kernel
theorem dX7_fails_14 : decode cX7_fails 14 = .ok (.ireturn, 1) := by decide +kernel
theorem dX7_in_0 : decode cX7_in 0 = .ok (.iload_n 0, 1) := by decide +kernel
theorem dX7_in_1 : decode cX7_in 1 = .ok (.iload_n 1, 1) := by decide +kernel
theorem dX7_in_2 : decode cX7_in 2 = .ok (.if_icmp .lt 12, 3) := by decide +kernel
theorem dX7_in_5 : decode cX7_in 5 = .ok (.iload_n 0, 1) := by decide +kernel
theorem dX7_in_6 : decode cX7_in 6 = .ok (.iload_n 2, 1) := by decide +kernel
theorem dX7_in_7 : decode cX7_in 7 = .ok (.if_icmp .gt 7, 3) := by decide +kernel
theorem dX7_in_10 : decode cX7_in 10 = .ok (.iconst 1, 1) := by decide +kernel
theorem dX7_in_11 : decode cX7_in 11 = .ok (.goto 4, 3) := by decide +kernel
theorem dX7_in_14 : decode cX7_in 14 = .ok (.iconst 0, 1) := by decide +kernel
theorem dX7_in_15 : decode cX7_in 15 = .ok (.ireturn, 1) := by decide +kernel
theorem dX7_isNoTrack_0 : decode cX7_isNoTrack 0 = .ok (.iload_n 1, 1) := by decide +kernel
theorem dX7_isNoTrack_1 : decode cX7_isNoTrack 1 = .ok (.iconst 0, 1) := by decide +kernel
theorem dX7_isNoTrack_2 : decode cX7_isNoTrack 2 = .ok (.aload_n 0, 1) := by decide +kernel
theorem dX7_isNoTrack_3 : decode cX7_isNoTrack 3 = .ok (.getfield 76, 3) := by decide +kernel
theorem dX7_isNoTrack_6 : decode cX7_isNoTrack 6 = .ok (.iconst 1, 1) := by decide +kernel
theorem dX7_isNoTrack_7 : decode cX7_isNoTrack 7 = .ok (.isub, 1) := by decide +kernel
theorem dX7_isNoTrack_8 : decode cX7_isNoTrack 8 = .ok (.invokestatic 79, 3) := by decide +kernel
theorem dX7_isNoTrack_11 : decode cX7_isNoTrack 11 = .ok (.ifCond .ne 7, 3) := by decide +kernel
theorem dX7_isNoTrack_14 : decode cX7_isNoTrack 14 = .ok (.iconst 1, 1) := by decide +kernel
theorem dX7_isNoTrack_15 : decode cX7_isNoTrack 15 = .ok (.goto 4, 3) := by decide +kernel
theorem dX7_isNoTrack_18 : decode cX7_isNoTrack 18 = .ok (.iconst 0, 1) := by decide +kernel
theorem dX7_isNoTrack_19 : decode cX7_isNoTrack 19 = .ok (.ireturn, 1) := by decide +kernel
theorem dX7_isNoCar_0 : decode cX7_isNoCar 0 = .ok (.iload_n 1, 1) := by decide +kernel
theorem dX7_isNoCar_1 : decode cX7_isNoCar 1 = .ok (.iconst 0, 1) := by decide +kernel
theorem dX7_isNoCar_2 : decode cX7_isNoCar 2 = .ok (.aload_n 0, 1) := by decide +kernel
theorem dX7_isNoCar_3 : decode cX7_isNoCar 3 = .ok (.getfield 83, 3) := by decide +kernel
theorem dX7_isNoCar_6 : decode cX7_isNoCar 6 = .ok (.iconst 1, 1) := by decide +kernel
theorem dX7_isNoCar_7 : decode cX7_isNoCar 7 = .ok (.isub, 1) := by decide +kernel
theorem dX7_isNoCar_8 : decode cX7_isNoCar 8 = .ok (.invokestatic 79, 3) := by decide +kernel
theorem dX7_isNoCar_11 : decode cX7_isNoCar 11 = .ok (.ifCond .ne 7, 3) := by decide +kernel
theorem dX7_isNoCar_14 : decode cX7_isNoCar 14 = .ok (.iconst 1, 1) := by decide +kernel
theorem dX7_isNoCar_15 : decode cX7_isNoCar 15 = .ok (.goto 4, 3) := by decide +kernel
theorem dX7_isNoCar_18 : decode cX7_isNoCar 18 = .ok (.iconst 0, 1) := by decide +kernel
theorem dX7_isNoCar_19 : decode cX7_isNoCar 19 = .ok (.ireturn, 1) := by decide +kernel
theorem dX7_isNoLap_0 : decode cX7_isNoLap 0 = .ok (.iload_n 1, 1) := by decide +kernel
theorem dX7_isNoLap_1 : decode cX7_isNoLap 1 = .ok (.iconst 0, 1) := by decide +kernel
theorem dX7_isNoLap_2 : decode cX7_isNoLap 2 = .ok (.aload_n 0, 1) := by decide +kernel
theorem dX7_isNoLap_3 : decode cX7_isNoLap 3 = .ok (.getfield 86, 3) := by decide +kernel
theorem dX7_isNoLap_6 : decode cX7_isNoLap 6 = .ok (.iconst 1, 1) := by decide +kernel
theorem dX7_isNoLap_7 : decode cX7_isNoLap 7 = .ok (.isub, 1) := by decide +kernel
theorem dX7_isNoLap_8 : decode cX7_isNoLap 8 = .ok (.invokestatic 79, 3) := by decide +kernel
theorem dX7_isNoLap_11 : decode cX7_isNoLap 11 = .ok (.ifCond .ne 7, 3) := by decide +kernel
theorem dX7_isNoLap_14 : decode cX7_isNoLap 14 = .ok (.iconst 1, 1) := by decide +kernel
theorem dX7_isNoLap_15 : decode cX7_isNoLap 15 = .ok (.goto 4, 3) := by decide +kernel
theorem dX7_isNoLap_18 : decode cX7_isNoLap 18 = .ok (.iconst 0, 1) := by decide +kernel
theorem dX7_isNoLap_19 : decode cX7_isNoLap 19 = .ok (.ireturn, 1) := by decide +kernel
theorem dX7_track_0 : decode cX7_track 0 = .ok (.aload_n 0, 1) := by decide +kernel
theorem dX7_track_1 : decode cX7_track 1 = .ok (.aload_n 0, 1) := by decide +kernel
theorem dX7_track_2 : decode cX7_track 2 = .ok (.getfield 76, 3) := by decide +kernel
theorem dX7_track_5 : decode cX7_track 5 = .ok (.iconst 4, 1) := by decide +kernel
theorem dX7_track_6 : decode cX7_track 6 = .ok (.if_icmp .ne 7, 3) := by decide +kernel
theorem dX7_track_9 : decode cX7_track 9 = .ok (.iconst 1, 1) := by decide +kernel
theorem dX7_track_10 : decode cX7_track 10 = .ok (.goto 4, 3) := by decide +kernel
theorem dX7_track_13 : decode cX7_track 13 = .ok (.iconst 0, 1) := by decide +kernel
theorem dX7_track_14 : decode cX7_track 14 = .ok (.invokevirtual 89, 3) := by decide +kernel
theorem dX7_track_17 : decode cX7_track 17 = .ok (.ifCond .eq 5, 3) := by decide +kernel
theorem dX7_track_20 : decode cX7_track 20 = .ok (.iconst 0, 1) := by decide +kernel
theorem dX7_track_21 : decode cX7_track 21 = .ok (.ireturn, 1) := by decide +kernel
theorem dX7_track_22 : decode cX7_track 22 = .ok (.aload_n 0, 1) := by decide +kernel
theorem dX7_track_23 : decode cX7_track 23 = .ok (.dup, 1) := by decide +kernel
theorem dX7_track_24 : decode cX7_track 24 = .ok (.getfield 76, 3) := by decide +kernel
theorem dX7_track_27 : decode cX7_track 27 = .ok (.iconst 1, 1) := by decide +kernel
theorem dX7_track_28 : decode cX7_track 28 = .ok (.iadd, 1) := by decide +kernel
theorem dX7_track_29 : decode cX7_track 29 = .ok (.putfield 76, 3) := by decide +kernel
theorem dX7_track_32 : decode cX7_track 32 = .ok (.aload_n 0, 1) := by decide +kernel
theorem dX7_track_33 : decode cX7_track 33 = .ok (.getfield 76, 3) := by decide +kernel
theorem dX7_track_36 : decode cX7_track 36 = .ok (.iconst 1, 1) := by decide +kernel
theorem dX7_track_37 : decode cX7_track 37 = .ok (.isub, 1) := by decide +kernel
theorem dX7_track_38 : decode cX7_track 38 = .ok (.ireturn, 1) := by decide +kernel
theorem dX7_lengthNow_0 : decode cX7_lengthNow 0 = .ok (.iconst 0, 1) := by decide +kernel
theorem dX7_lengthNow_1 : decode cX7_lengthNow 1 = .ok (.istore_n 2, 1) := by decide +kernel
theorem dX7_lengthNow_2 : decode cX7_lengthNow 2 = .ok (.iconst 0, 1) := by decide +kernel
theorem dX7_lengthNow_3 : decode cX7_lengthNow 3 = .ok (.istore_n 3, 1) := by decide +kernel
theorem dX7_lengthNow_4 : decode cX7_lengthNow 4 = .ok (.iload_n 3, 1) := by decide +kernel
theorem dX7_lengthNow_5 : decode cX7_lengthNow 5 = .ok (.aload_n 0, 1) := by decide +kernel
theorem dX7_lengthNow_6 : decode cX7_lengthNow 6 = .ok (.getfield 7, 3) := by decide +kernel
theorem dX7_lengthNow_9 : decode cX7_lengthNow 9 = .ok (.iload_n 1, 1) := by decide +kernel
theorem dX7_lengthNow_10 : decode cX7_lengthNow 10 = .ok (.iaload, 1) := by decide +kernel
theorem dX7_lengthNow_11 : decode cX7_lengthNow 11 = .ok (.if_icmp .ge 23, 3) := by decide +kernel
theorem dX7_lengthNow_14 : decode cX7_lengthNow 14 = .ok (.iload_n 2, 1) := by decide +kernel
theorem dX7_lengthNow_15 : decode cX7_lengthNow 15 = .ok (.aload_n 0, 1) := by decide +kernel
theorem dX7_lengthNow_16 : decode cX7_lengthNow 16 = .ok (.getfield 13, 3) := by decide +kernel
theorem dX7_lengthNow_19 : decode cX7_lengthNow 19 = .ok (.bipush 12, 2) := by decide +kernel
theorem dX7_lengthNow_21 : decode cX7_lengthNow 21 = .ok (.iload_n 1, 1) := by decide +kernel
theorem dX7_lengthNow_22 : decode cX7_lengthNow 22 = .ok (.imul, 1) := by decide +kernel
theorem dX7_lengthNow_23 : decode cX7_lengthNow 23 = .ok (.iload_n 3, 1) := by decide +kernel
theorem dX7_lengthNow_24 : decode cX7_lengthNow 24 = .ok (.iadd, 1) := by decide +kernel
theorem dX7_lengthNow_25 : decode cX7_lengthNow 25 = .ok (.iaload, 1) := by decide +kernel
theorem dX7_lengthNow_26 : decode cX7_lengthNow 26 = .ok (.iadd, 1) := by decide +kernel
theorem dX7_lengthNow_27 : decode cX7_lengthNow 27 = .ok (.istore_n 2, 1) := by decide +kernel
theorem dX7_lengthNow_28 : decode cX7_lengthNow 28 = .ok (.iinc 3 1, 3) := by decide +kernel
theorem dX7_lengthNow_31 : decode cX7_lengthNow 31 = .ok (.goto (-27), 3) := by decide +kernel
theorem dX7_lengthNow_34 : decode cX7_lengthNow 34 = .ok (.iload_n 2, 1) := by decide +kernel
theorem dX7_lengthNow_35 : decode cX7_lengthNow 35 = .ok (.ireturn, 1) := by decide +kernel
theorem dX7_stretch_0 : decode cX7_stretch 0 = .ok (.iconst 0, 1) := by decide +kernel
theorem dX7_stretch_1 : decode cX7_stretch 1 = .ok (.istore 4, 2) := by decide +kernel
theorem dX7_stretch_3 : decode cX7_stretch 3 = .ok (.iconst 0, 1) := by decide +kernel
theorem dX7_stretch_4 : decode cX7_stretch 4 = .ok (.istore 5, 2) := by decide +kernel
theorem dX7_stretch_6 : decode cX7_stretch 6 = .ok (.iload 5, 2) := by decide +kernel
theorem dX7_stretch_8 : decode cX7_stretch 8 = .ok (.aload_n 0, 1) := by decide +kernel
theorem dX7_stretch_9 : decode cX7_stretch 9 = .ok (.getfield 86, 3) := by decide +kernel
theorem dX7_stretch_12 : decode cX7_stretch 12 = .ok (.if_icmp .ge 30, 3) := by decide +kernel
theorem dX7_stretch_15 : decode cX7_stretch 15 = .ok (.iload 4, 2) := by decide +kernel
theorem dX7_stretch_17 : decode cX7_stretch 17 = .ok (.aload_n 0, 1) := by decide +kernel
theorem dX7_stretch_18 : decode cX7_stretch 18 = .ok (.getfield 47, 3) := by decide +kernel
theorem dX7_stretch_21 : decode cX7_stretch 21 = .ok (.iload 5, 2) := by decide +kernel
theorem dX7_stretch_23 : decode cX7_stretch 23 = .ok (.iaload, 1) := by decide +kernel
theorem dX7_stretch_24 : decode cX7_stretch 24 = .ok (.iload_n 1, 1) := by decide +kernel
theorem dX7_stretch_25 : decode cX7_stretch 25 = .ok (.if_icmp .ne 7, 3) := by decide +kernel
theorem dX7_stretch_28 : decode cX7_stretch 28 = .ok (.iconst 1, 1) := by decide +kernel
theorem dX7_stretch_29 : decode cX7_stretch 29 = .ok (.goto 4, 3) := by decide +kernel
theorem dX7_stretch_32 : decode cX7_stretch 32 = .ok (.iconst 0, 1) := by decide +kernel
theorem dX7_stretch_33 : decode cX7_stretch 33 = .ok (.ior, 1) := by decide +kernel
theorem dX7_stretch_34 : decode cX7_stretch 34 = .ok (.istore 4, 2) := by decide +kernel
theorem dX7_stretch_36 : decode cX7_stretch 36 = .ok (.iinc 5 1, 3) := by decide +kernel
theorem dX7_stretch_39 : decode cX7_stretch 39 = .ok (.goto (-33), 3) := by decide +kernel
theorem dX7_stretch_42 : decode cX7_stretch 42 = .ok (.aload_n 0, 1) := by decide +kernel
theorem dX7_stretch_43 : decode cX7_stretch 43 = .ok (.iload_n 1, 1) := by decide +kernel
theorem dX7_stretch_44 : decode cX7_stretch 44 = .ok (.invokevirtual 93, 3) := by decide +kernel
theorem dX7_stretch_47 : decode cX7_stretch 47 = .ok (.ifCond .eq 7, 3) := by decide +kernel
theorem dX7_stretch_50 : decode cX7_stretch 50 = .ok (.iconst 1, 1) := by decide +kernel
theorem dX7_stretch_51 : decode cX7_stretch 51 = .ok (.goto 52, 3) := by decide +kernel
theorem dX7_stretch_54 : decode cX7_stretch 54 = .ok (.iload_n 2, 1) := by decide +kernel
theorem dX7_stretch_55 : decode cX7_stretch 55 = .ok (.iconst 1, 1) := by decide +kernel
theorem dX7_stretch_56 : decode cX7_stretch 56 = .ok (.bipush 30, 2) := by decide +kernel
theorem dX7_stretch_58 : decode cX7_stretch 58 = .ok (.invokestatic 79, 3) := by decide +kernel
theorem dX7_stretch_61 : decode cX7_stretch 61 = .ok (.ifCond .eq 13, 3) := by decide +kernel
theorem dX7_stretch_64 : decode cX7_stretch 64 = .ok (.iload_n 3, 1) := by decide +kernel
theorem dX7_stretch_65 : decode cX7_stretch 65 = .ok (.iconst 1, 1) := by decide +kernel
theorem dX7_stretch_66 : decode cX7_stretch 66 = .ok (.bipush 9, 2) := by decide +kernel
theorem dX7_stretch_68 : decode cX7_stretch 68 = .ok (.invokestatic 79, 3) := by decide +kernel
theorem dX7_stretch_71 : decode cX7_stretch 71 = .ok (.ifCond .ne 7, 3) := by decide +kernel
theorem dX7_stretch_74 : decode cX7_stretch 74 = .ok (.iconst 2, 1) := by decide +kernel
theorem dX7_stretch_75 : decode cX7_stretch 75 = .ok (.goto 28, 3) := by decide +kernel
theorem dX7_stretch_78 : decode cX7_stretch 78 = .ok (.iload 4, 2) := by decide +kernel
theorem dX7_stretch_80 : decode cX7_stretch 80 = .ok (.ifCond .eq 7, 3) := by decide +kernel
theorem dX7_stretch_83 : decode cX7_stretch 83 = .ok (.iconst 3, 1) := by decide +kernel
theorem dX7_stretch_84 : decode cX7_stretch 84 = .ok (.goto 19, 3) := by decide +kernel
theorem dX7_stretch_87 : decode cX7_stretch 87 = .ok (.aload_n 0, 1) := by decide +kernel
theorem dX7_stretch_88 : decode cX7_stretch 88 = .ok (.getfield 7, 3) := by decide +kernel
theorem dX7_stretch_91 : decode cX7_stretch 91 = .ok (.iload_n 1, 1) := by decide +kernel
theorem dX7_stretch_92 : decode cX7_stretch 92 = .ok (.iaload, 1) := by decide +kernel
theorem dX7_stretch_93 : decode cX7_stretch 93 = .ok (.bipush 12, 2) := by decide +kernel
theorem dX7_stretch_95 : decode cX7_stretch 95 = .ok (.if_icmp .ne 7, 3) := by decide +kernel
theorem dX7_stretch_98 : decode cX7_stretch 98 = .ok (.iconst 4, 1) := by decide +kernel
theorem dX7_stretch_99 : decode cX7_stretch 99 = .ok (.goto 4, 3) := by decide +kernel
theorem dX7_stretch_102 : decode cX7_stretch 102 = .ok (.iconst 0, 1) := by decide +kernel
theorem dX7_stretch_103 : decode cX7_stretch 103 = .ok (.istore 5, 2) := by decide +kernel
theorem dX7_stretch_105 : decode cX7_stretch 105 = .ok (.aload_n 0, 1) := by decide +kernel
theorem dX7_stretch_106 : decode cX7_stretch 106 = .ok (.iload 5, 2) := by decide +kernel
theorem dX7_stretch_108 : decode cX7_stretch 108 = .ok (.invokevirtual 89, 3) := by decide +kernel
theorem dX7_stretch_111 : decode cX7_stretch 111 = .ok (.ifCond .eq 5, 3) := by decide +kernel
theorem dX7_stretch_114 : decode cX7_stretch 114 = .ok (.iconst 0, 1) := by decide +kernel
theorem dX7_stretch_115 : decode cX7_stretch 115 = .ok (.ireturn, 1) := by decide +kernel
theorem dX7_stretch_116 : decode cX7_stretch 116 = .ok (.aload_n 0, 1) := by decide +kernel
theorem dX7_stretch_117 : decode cX7_stretch 117 = .ok (.getfield 13, 3) := by decide +kernel
theorem dX7_stretch_120 : decode cX7_stretch 120 = .ok (.bipush 12, 2) := by decide +kernel
theorem dX7_stretch_122 : decode cX7_stretch 122 = .ok (.iload_n 1, 1) := by decide +kernel
theorem dX7_stretch_123 : decode cX7_stretch 123 = .ok (.imul, 1) := by decide +kernel
theorem dX7_stretch_124 : decode cX7_stretch 124 = .ok (.aload_n 0, 1) := by decide +kernel
theorem dX7_stretch_125 : decode cX7_stretch 125 = .ok (.getfield 7, 3) := by decide +kernel
theorem dX7_stretch_128 : decode cX7_stretch 128 = .ok (.iload_n 1, 1) := by decide +kernel
theorem dX7_stretch_129 : decode cX7_stretch 129 = .ok (.iaload, 1) := by decide +kernel
theorem dX7_stretch_130 : decode cX7_stretch 130 = .ok (.iadd, 1) := by decide +kernel
theorem dX7_stretch_131 : decode cX7_stretch 131 = .ok (.iload_n 2, 1) := by decide +kernel
theorem dX7_stretch_132 : decode cX7_stretch 132 = .ok (.iastore, 1) := by decide +kernel
theorem dX7_stretch_133 : decode cX7_stretch 133 = .ok (.aload_n 0, 1) := by decide +kernel
theorem dX7_stretch_134 : decode cX7_stretch 134 = .ok (.getfield 16, 3) := by decide +kernel
theorem dX7_stretch_137 : decode cX7_stretch 137 = .ok (.bipush 12, 2) := by decide +kernel
theorem dX7_stretch_139 : decode cX7_stretch 139 = .ok (.iload_n 1, 1) := by decide +kernel
theorem dX7_stretch_140 : decode cX7_stretch 140 = .ok (.imul, 1) := by decide +kernel
theorem dX7_stretch_141 : decode cX7_stretch 141 = .ok (.aload_n 0, 1) := by decide +kernel
theorem dX7_stretch_142 : decode cX7_stretch 142 = .ok (.getfield 7, 3) := by decide +kernel
theorem dX7_stretch_145 : decode cX7_stretch 145 = .ok (.iload_n 1, 1) := by decide +kernel
theorem dX7_stretch_146 : decode cX7_stretch 146 = .ok (.iaload, 1) := by decide +kernel
theorem dX7_stretch_147 : decode cX7_stretch 147 = .ok (.iadd, 1) := by decide +kernel
theorem dX7_stretch_148 : decode cX7_stretch 148 = .ok (.iload_n 3, 1) := by decide +kernel
theorem dX7_stretch_149 : decode cX7_stretch 149 = .ok (.iastore, 1) := by decide +kernel
theorem dX7_stretch_150 : decode cX7_stretch 150 = .ok (.aload_n 0, 1) := by decide +kernel
theorem dX7_stretch_151 : decode cX7_stretch 151 = .ok (.getfield 7, 3) := by decide +kernel
theorem dX7_stretch_154 : decode cX7_stretch 154 = .ok (.iload_n 1, 1) := by decide +kernel
theorem dX7_stretch_155 : decode cX7_stretch 155 = .ok (.dup2, 1) := by decide +kernel
theorem dX7_stretch_156 : decode cX7_stretch 156 = .ok (.iaload, 1) := by decide +kernel
theorem dX7_stretch_157 : decode cX7_stretch 157 = .ok (.iconst 1, 1) := by decide +kernel
theorem dX7_stretch_158 : decode cX7_stretch 158 = .ok (.iadd, 1) := by decide +kernel
theorem dX7_stretch_159 : decode cX7_stretch 159 = .ok (.iastore, 1) := by decide +kernel
theorem dX7_stretch_160 : decode cX7_stretch 160 = .ok (.aload_n 0, 1) := by decide +kernel
theorem dX7_stretch_161 : decode cX7_stretch 161 = .ok (.iload_n 1, 1) := by decide +kernel
theorem dX7_stretch_162 : decode cX7_stretch 162 = .ok (.invokevirtual 96, 3) := by decide +kernel
theorem dX7_stretch_165 : decode cX7_stretch 165 = .ok (.ireturn, 1) := by decide +kernel
theorem dX7_car_0 : decode cX7_car 0 = .ok (.aload_n 0, 1) := by decide +kernel
theorem dX7_car_1 : decode cX7_car 1 = .ok (.iload_n 1, 1) := by decide +kernel
theorem dX7_car_2 : decode cX7_car 2 = .ok (.iconst 1, 1) := by decide +kernel
theorem dX7_car_3 : decode cX7_car 3 = .ok (.bipush 9, 2) := by decide +kernel
theorem dX7_car_5 : decode cX7_car 5 = .ok (.invokestatic 79, 3) := by decide +kernel
theorem dX7_car_8 : decode cX7_car 8 = .ok (.ifCond .eq 21, 3) := by decide +kernel
theorem dX7_car_11 : decode cX7_car 11 = .ok (.iload_n 2, 1) := by decide +kernel
theorem dX7_car_12 : decode cX7_car 12 = .ok (.iconst 1, 1) := by decide +kernel
theorem dX7_car_13 : decode cX7_car 13 = .ok (.iconst 4, 1) := by decide +kernel
theorem dX7_car_14 : decode cX7_car 14 = .ok (.invokestatic 79, 3) := by decide +kernel
theorem dX7_car_17 : decode cX7_car 17 = .ok (.ifCond .eq 12, 3) := by decide +kernel
theorem dX7_car_20 : decode cX7_car 20 = .ok (.iload_n 3, 1) := by decide +kernel
theorem dX7_car_21 : decode cX7_car 21 = .ok (.iconst 0, 1) := by decide +kernel
theorem dX7_car_22 : decode cX7_car 22 = .ok (.iconst 3, 1) := by decide +kernel
theorem dX7_car_23 : decode cX7_car 23 = .ok (.invokestatic 79, 3) := by decide +kernel
theorem dX7_car_26 : decode cX7_car 26 = .ok (.ifCond .ne 7, 3) := by decide +kernel
theorem dX7_car_29 : decode cX7_car 29 = .ok (.iconst 1, 1) := by decide +kernel
theorem dX7_car_30 : decode cX7_car 30 = .ok (.goto 16, 3) := by decide +kernel
theorem dX7_car_33 : decode cX7_car 33 = .ok (.aload_n 0, 1) := by decide +kernel
theorem dX7_car_34 : decode cX7_car 34 = .ok (.getfield 83, 3) := by decide +kernel
theorem dX7_car_37 : decode cX7_car 37 = .ok (.iconst 4, 1) := by decide +kernel
theorem dX7_car_38 : decode cX7_car 38 = .ok (.if_icmp .ne 7, 3) := by decide +kernel
theorem dX7_car_41 : decode cX7_car 41 = .ok (.iconst 2, 1) := by decide +kernel
theorem dX7_car_42 : decode cX7_car 42 = .ok (.goto 4, 3) := by decide +kernel
theorem dX7_car_45 : decode cX7_car 45 = .ok (.iconst 0, 1) := by decide +kernel
theorem dX7_car_46 : decode cX7_car 46 = .ok (.invokevirtual 89, 3) := by decide +kernel
theorem dX7_car_49 : decode cX7_car 49 = .ok (.ifCond .eq 5, 3) := by decide +kernel
theorem dX7_car_52 : decode cX7_car 52 = .ok (.iconst 0, 1) := by decide +kernel
theorem dX7_car_53 : decode cX7_car 53 = .ok (.ireturn, 1) := by decide +kernel
theorem dX7_car_54 : decode cX7_car 54 = .ok (.aload_n 0, 1) := by decide +kernel
theorem dX7_car_55 : decode cX7_car 55 = .ok (.getfield 19, 3) := by decide +kernel
theorem dX7_car_58 : decode cX7_car 58 = .ok (.aload_n 0, 1) := by decide +kernel
theorem dX7_car_59 : decode cX7_car 59 = .ok (.getfield 83, 3) := by decide +kernel
theorem dX7_car_62 : decode cX7_car 62 = .ok (.iload_n 1, 1) := by decide +kernel
theorem dX7_car_63 : decode cX7_car 63 = .ok (.iastore, 1) := by decide +kernel
theorem dX7_car_64 : decode cX7_car 64 = .ok (.aload_n 0, 1) := by decide +kernel
theorem dX7_car_65 : decode cX7_car 65 = .ok (.getfield 22, 3) := by decide +kernel
theorem dX7_car_68 : decode cX7_car 68 = .ok (.aload_n 0, 1) := by decide +kernel
theorem dX7_car_69 : decode cX7_car 69 = .ok (.getfield 83, 3) := by decide +kernel
theorem dX7_car_72 : decode cX7_car 72 = .ok (.iload_n 2, 1) := by decide +kernel
theorem dX7_car_73 : decode cX7_car 73 = .ok (.iastore, 1) := by decide +kernel
theorem dX7_car_74 : decode cX7_car 74 = .ok (.aload_n 0, 1) := by decide +kernel
theorem dX7_car_75 : decode cX7_car 75 = .ok (.getfield 25, 3) := by decide +kernel
theorem dX7_car_78 : decode cX7_car 78 = .ok (.aload_n 0, 1) := by decide +kernel
theorem dX7_car_79 : decode cX7_car 79 = .ok (.getfield 83, 3) := by decide +kernel
theorem dX7_car_82 : decode cX7_car 82 = .ok (.iload_n 3, 1) := by decide +kernel
theorem dX7_car_83 : decode cX7_car 83 = .ok (.iastore, 1) := by decide +kernel
theorem dX7_car_84 : decode cX7_car 84 = .ok (.aload_n 0, 1) := by decide +kernel
theorem dX7_car_85 : decode cX7_car 85 = .ok (.dup, 1) := by decide +kernel
theorem dX7_car_86 : decode cX7_car 86 = .ok (.getfield 83, 3) := by decide +kernel
theorem dX7_car_89 : decode cX7_car 89 = .ok (.iconst 1, 1) := by decide +kernel
theorem dX7_car_90 : decode cX7_car 90 = .ok (.iadd, 1) := by decide +kernel
theorem dX7_car_91 : decode cX7_car 91 = .ok (.putfield 83, 3) := by decide +kernel
theorem dX7_car_94 : decode cX7_car 94 = .ok (.aload_n 0, 1) := by decide +kernel
theorem dX7_car_95 : decode cX7_car 95 = .ok (.getfield 83, 3) := by decide +kernel
theorem dX7_car_98 : decode cX7_car 98 = .ok (.iconst 1, 1) := by decide +kernel
theorem dX7_car_99 : decode cX7_car 99 = .ok (.isub, 1) := by decide +kernel
theorem dX7_car_100 : decode cX7_car 100 = .ok (.ireturn, 1) := by decide +kernel
theorem dX7_lengthOf_0 : decode cX7_lengthOf 0 = .ok (.aload_n 0, 1) := by decide +kernel
theorem dX7_lengthOf_1 : decode cX7_lengthOf 1 = .ok (.aload_n 0, 1) := by decide +kernel
theorem dX7_lengthOf_2 : decode cX7_lengthOf 2 = .ok (.iload_n 1, 1) := by decide +kernel
theorem dX7_lengthOf_3 : decode cX7_lengthOf 3 = .ok (.invokevirtual 93, 3) := by decide +kernel
theorem dX7_lengthOf_6 : decode cX7_lengthOf 6 = .ok (.ifCond .eq 7, 3) := by decide +kernel
theorem dX7_lengthOf_9 : decode cX7_lengthOf 9 = .ok (.iconst 1, 1) := by decide +kernel
theorem dX7_lengthOf_10 : decode cX7_lengthOf 10 = .ok (.goto 4, 3) := by decide +kernel
theorem dX7_lengthOf_13 : decode cX7_lengthOf 13 = .ok (.iconst 0, 1) := by decide +kernel
theorem dX7_lengthOf_14 : decode cX7_lengthOf 14 = .ok (.invokevirtual 89, 3) := by decide +kernel
theorem dX7_lengthOf_17 : decode cX7_lengthOf 17 = .ok (.ifCond .eq 7, 3) := by decide +kernel
theorem dX7_lengthOf_20 : decode cX7_lengthOf 20 = .ok (.iconst 0, 1) := by decide +kernel
theorem dX7_lengthOf_21 : decode cX7_lengthOf 21 = .ok (.goto 8, 3) := by decide +kernel
theorem dX7_lengthOf_24 : decode cX7_lengthOf 24 = .ok (.aload_n 0, 1) := by decide +kernel
theorem dX7_lengthOf_25 : decode cX7_lengthOf 25 = .ok (.iload_n 1, 1) := by decide +kernel
theorem dX7_lengthOf_26 : decode cX7_lengthOf 26 = .ok (.invokevirtual 96, 3) := by decide +kernel
theorem dX7_lengthOf_29 : decode cX7_lengthOf 29 = .ok (.ireturn, 1) := by decide +kernel
theorem dX7_limitNow_0 : decode cX7_limitNow 0 = .ok (.iload_n 2, 1) := by decide +kernel
theorem dX7_limitNow_1 : decode cX7_limitNow 1 = .ok (.istore_n 3, 1) := by decide +kernel
theorem dX7_limitNow_2 : decode cX7_limitNow 2 = .ok (.iconst 0, 1) := by decide +kernel
theorem dX7_limitNow_3 : decode cX7_limitNow 3 = .ok (.istore 4, 2) := by decide +kernel
theorem dX7_limitNow_5 : decode cX7_limitNow 5 = .ok (.iload_n 3, 1) := by decide +kernel
theorem dX7_limitNow_6 : decode cX7_limitNow 6 = .ok (.aload_n 0, 1) := by decide +kernel
theorem dX7_limitNow_7 : decode cX7_limitNow 7 = .ok (.getfield 13, 3) := by decide +kernel
theorem dX7_limitNow_10 : decode cX7_limitNow 10 = .ok (.bipush 12, 2) := by decide +kernel
theorem dX7_limitNow_12 : decode cX7_limitNow 12 = .ok (.iload_n 1, 1) := by decide +kernel
theorem dX7_limitNow_13 : decode cX7_limitNow 13 = .ok (.imul, 1) := by decide +kernel
theorem dX7_limitNow_14 : decode cX7_limitNow 14 = .ok (.iload 4, 2) := by decide +kernel
theorem dX7_limitNow_16 : decode cX7_limitNow 16 = .ok (.iadd, 1) := by decide +kernel
theorem dX7_limitNow_17 : decode cX7_limitNow 17 = .ok (.iaload, 1) := by decide +kernel
theorem dX7_limitNow_18 : decode cX7_limitNow 18 = .ok (.if_icmp .lt 24, 3) := by decide +kernel
theorem dX7_limitNow_21 : decode cX7_limitNow 21 = .ok (.iload_n 3, 1) := by decide +kernel
theorem dX7_limitNow_22 : decode cX7_limitNow 22 = .ok (.aload_n 0, 1) := by decide +kernel
theorem dX7_limitNow_23 : decode cX7_limitNow 23 = .ok (.getfield 13, 3) := by decide +kernel
theorem dX7_limitNow_26 : decode cX7_limitNow 26 = .ok (.bipush 12, 2) := by decide +kernel
theorem dX7_limitNow_28 : decode cX7_limitNow 28 = .ok (.iload_n 1, 1) := by decide +kernel
theorem dX7_limitNow_29 : decode cX7_limitNow 29 = .ok (.imul, 1) := by decide +kernel
theorem dX7_limitNow_30 : decode cX7_limitNow 30 = .ok (.iload 4, 2) := by decide +kernel
theorem dX7_limitNow_32 : decode cX7_limitNow 32 = .ok (.iadd, 1) := by decide +kernel
theorem dX7_limitNow_33 : decode cX7_limitNow 33 = .ok (.iaload, 1) := by decide +kernel
theorem dX7_limitNow_34 : decode cX7_limitNow 34 = .ok (.isub, 1) := by decide +kernel
theorem dX7_limitNow_35 : decode cX7_limitNow 35 = .ok (.istore_n 3, 1) := by decide +kernel
theorem dX7_limitNow_36 : decode cX7_limitNow 36 = .ok (.iinc 4 1, 3) := by decide +kernel
theorem dX7_limitNow_39 : decode cX7_limitNow 39 = .ok (.goto (-34), 3) := by decide +kernel
theorem dX7_limitNow_42 : decode cX7_limitNow 42 = .ok (.aload_n 0, 1) := by decide +kernel
theorem dX7_limitNow_43 : decode cX7_limitNow 43 = .ok (.getfield 16, 3) := by decide +kernel
theorem dX7_limitNow_46 : decode cX7_limitNow 46 = .ok (.bipush 12, 2) := by decide +kernel
theorem dX7_limitNow_48 : decode cX7_limitNow 48 = .ok (.iload_n 1, 1) := by decide +kernel
theorem dX7_limitNow_49 : decode cX7_limitNow 49 = .ok (.imul, 1) := by decide +kernel
theorem dX7_limitNow_50 : decode cX7_limitNow 50 = .ok (.iload 4, 2) := by decide +kernel
theorem dX7_limitNow_52 : decode cX7_limitNow 52 = .ok (.iadd, 1) := by decide +kernel
theorem dX7_limitNow_53 : decode cX7_limitNow 53 = .ok (.iaload, 1) := by decide +kernel
theorem dX7_limitNow_54 : decode cX7_limitNow 54 = .ok (.ireturn, 1) := by decide +kernel
theorem dX7_limitAt_0 : decode cX7_limitAt 0 = .ok (.aload_n 0, 1) := by decide +kernel
theorem dX7_limitAt_1 : decode cX7_limitAt 1 = .ok (.aload_n 0, 1) := by decide +kernel
theorem dX7_limitAt_2 : decode cX7_limitAt 2 = .ok (.iload_n 1, 1) := by decide +kernel
theorem dX7_limitAt_3 : decode cX7_limitAt 3 = .ok (.invokevirtual 93, 3) := by decide +kernel
theorem dX7_limitAt_6 : decode cX7_limitAt 6 = .ok (.ifCond .eq 7, 3) := by decide +kernel
theorem dX7_limitAt_9 : decode cX7_limitAt 9 = .ok (.iconst 1, 1) := by decide +kernel
theorem dX7_limitAt_10 : decode cX7_limitAt 10 = .ok (.goto 23, 3) := by decide +kernel
theorem dX7_limitAt_13 : decode cX7_limitAt 13 = .ok (.iload_n 2, 1) := by decide +kernel
theorem dX7_limitAt_14 : decode cX7_limitAt 14 = .ok (.iconst 0, 1) := by decide +kernel
theorem dX7_limitAt_15 : decode cX7_limitAt 15 = .ok (.aload_n 0, 1) := by decide +kernel
theorem dX7_limitAt_16 : decode cX7_limitAt 16 = .ok (.iload_n 1, 1) := by decide +kernel
theorem dX7_limitAt_17 : decode cX7_limitAt 17 = .ok (.invokevirtual 96, 3) := by decide +kernel
theorem dX7_limitAt_20 : decode cX7_limitAt 20 = .ok (.iconst 1, 1) := by decide +kernel
theorem dX7_limitAt_21 : decode cX7_limitAt 21 = .ok (.isub, 1) := by decide +kernel
theorem dX7_limitAt_22 : decode cX7_limitAt 22 = .ok (.invokestatic 79, 3) := by decide +kernel
theorem dX7_limitAt_25 : decode cX7_limitAt 25 = .ok (.ifCond .ne 7, 3) := by decide +kernel
theorem dX7_limitAt_28 : decode cX7_limitAt 28 = .ok (.iconst 2, 1) := by decide +kernel
theorem dX7_limitAt_29 : decode cX7_limitAt 29 = .ok (.goto 4, 3) := by decide +kernel
theorem dX7_limitAt_32 : decode cX7_limitAt 32 = .ok (.iconst 0, 1) := by decide +kernel
theorem dX7_limitAt_33 : decode cX7_limitAt 33 = .ok (.invokevirtual 89, 3) := by decide +kernel
theorem dX7_limitAt_36 : decode cX7_limitAt 36 = .ok (.ifCond .eq 7, 3) := by decide +kernel
theorem dX7_limitAt_39 : decode cX7_limitAt 39 = .ok (.iconst 0, 1) := by decide +kernel
theorem dX7_limitAt_40 : decode cX7_limitAt 40 = .ok (.goto 9, 3) := by decide +kernel
theorem dX7_limitAt_43 : decode cX7_limitAt 43 = .ok (.aload_n 0, 1) := by decide +kernel
theorem dX7_limitAt_44 : decode cX7_limitAt 44 = .ok (.iload_n 1, 1) := by decide +kernel
theorem dX7_limitAt_45 : decode cX7_limitAt 45 = .ok (.iload_n 2, 1) := by decide +kernel
theorem dX7_limitAt_46 : decode cX7_limitAt 46 = .ok (.invokevirtual 100, 3) := by decide +kernel
theorem dX7_limitAt_49 : decode cX7_limitAt 49 = .ok (.ireturn, 1) := by decide +kernel
theorem dX7_type_0 : decode cX7_type 0 = .ok (.iload_n 1, 1) := by decide +kernel
theorem dX7_type_1 : decode cX7_type 1 = .ok (.bipush 43, 2) := by decide +kernel
theorem dX7_type_3 : decode cX7_type 3 = .ok (.if_icmp .eq 15, 3) := by decide +kernel
theorem dX7_type_6 : decode cX7_type 6 = .ok (.iload_n 1, 1) := by decide +kernel
theorem dX7_type_7 : decode cX7_type 7 = .ok (.bipush 45, 2) := by decide +kernel
theorem dX7_type_9 : decode cX7_type 9 = .ok (.if_icmp .eq 9, 3) := by decide +kernel
theorem dX7_type_12 : decode cX7_type 12 = .ok (.iload_n 1, 1) := by decide +kernel
theorem dX7_type_13 : decode cX7_type 13 = .ok (.bipush 61, 2) := by decide +kernel
theorem dX7_type_15 : decode cX7_type 15 = .ok (.if_icmp .ne 17, 3) := by decide +kernel
theorem dX7_type_18 : decode cX7_type 18 = .ok (.iload_n 2, 1) := by decide +kernel
theorem dX7_type_19 : decode cX7_type 19 = .ok (.iconst 1, 1) := by decide +kernel
theorem dX7_type_20 : decode cX7_type 20 = .ok (.bipush 20, 2) := by decide +kernel
theorem dX7_type_22 : decode cX7_type 22 = .ok (.invokestatic 79, 3) := by decide +kernel
theorem dX7_type_25 : decode cX7_type 25 = .ok (.ifCond .eq 7, 3) := by decide +kernel
theorem dX7_type_28 : decode cX7_type 28 = .ok (.iconst 1, 1) := by decide +kernel
theorem dX7_type_29 : decode cX7_type 29 = .ok (.goto 4, 3) := by decide +kernel
theorem dX7_type_32 : decode cX7_type 32 = .ok (.iconst 0, 1) := by decide +kernel
theorem dX7_type_33 : decode cX7_type 33 = .ok (.istore_n 3, 1) := by decide +kernel
theorem dX7_type_34 : decode cX7_type 34 = .ok (.aload_n 0, 1) := by decide +kernel
theorem dX7_type_35 : decode cX7_type 35 = .ok (.iload_n 3, 1) := by decide +kernel
theorem dX7_type_36 : decode cX7_type 36 = .ok (.ifCond .ne 7, 3) := by decide +kernel
theorem dX7_type_39 : decode cX7_type 39 = .ok (.iconst 1, 1) := by decide +kernel
theorem dX7_type_40 : decode cX7_type 40 = .ok (.goto 19, 3) := by decide +kernel
theorem dX7_type_43 : decode cX7_type 43 = .ok (.aload_n 0, 1) := by decide +kernel
theorem dX7_type_44 : decode cX7_type 44 = .ok (.getfield 104, 3) := by decide +kernel
theorem dX7_type_47 : decode cX7_type 47 = .ok (.iload_n 2, 1) := by decide +kernel
theorem dX7_type_48 : decode cX7_type 48 = .ok (.iadd, 1) := by decide +kernel
theorem dX7_type_49 : decode cX7_type 49 = .ok (.bipush 60, 2) := by decide +kernel
theorem dX7_type_51 : decode cX7_type 51 = .ok (.if_icmp .le 7, 3) := by decide +kernel
theorem dX7_type_54 : decode cX7_type 54 = .ok (.iconst 2, 1) := by decide +kernel
theorem dX7_type_55 : decode cX7_type 55 = .ok (.goto 4, 3) := by decide +kernel
theorem dX7_type_58 : decode cX7_type 58 = .ok (.iconst 0, 1) := by decide +kernel
theorem dX7_type_59 : decode cX7_type 59 = .ok (.invokevirtual 89, 3) := by decide +kernel
theorem dX7_type_62 : decode cX7_type 62 = .ok (.ifCond .eq 5, 3) := by decide +kernel
theorem dX7_type_65 : decode cX7_type 65 = .ok (.iconst 0, 1) := by decide +kernel
theorem dX7_type_66 : decode cX7_type 66 = .ok (.ireturn, 1) := by decide +kernel
theorem dX7_type_67 : decode cX7_type 67 = .ok (.iconst 0, 1) := by decide +kernel
theorem dX7_type_68 : decode cX7_type 68 = .ok (.istore 4, 2) := by decide +kernel
theorem dX7_type_70 : decode cX7_type 70 = .ok (.iload 4, 2) := by decide +kernel
theorem dX7_type_72 : decode cX7_type 72 = .ok (.iload_n 2, 1) := by decide +kernel
theorem dX7_type_73 : decode cX7_type 73 = .ok (.if_icmp .ge 29, 3) := by decide +kernel
theorem dX7_type_76 : decode cX7_type 76 = .ok (.aload_n 0, 1) := by decide +kernel
theorem dX7_type_77 : decode cX7_type 77 = .ok (.getfield 28, 3) := by decide +kernel
theorem dX7_type_80 : decode cX7_type 80 = .ok (.aload_n 0, 1) := by decide +kernel
theorem dX7_type_81 : decode cX7_type 81 = .ok (.getfield 104, 3) := by decide +kernel
theorem dX7_type_84 : decode cX7_type 84 = .ok (.iload_n 1, 1) := by decide +kernel
theorem dX7_type_85 : decode cX7_type 85 = .ok (.castore, 1) := by decide +kernel
theorem dX7_type_86 : decode cX7_type 86 = .ok (.aload_n 0, 1) := by decide +kernel
theorem dX7_type_87 : decode cX7_type 87 = .ok (.dup, 1) := by decide +kernel
theorem dX7_type_88 : decode cX7_type 88 = .ok (.getfield 104, 3) := by decide +kernel
theorem dX7_type_91 : decode cX7_type 91 = .ok (.iconst 1, 1) := by decide +kernel
theorem dX7_type_92 : decode cX7_type 92 = .ok (.iadd, 1) := by decide +kernel
theorem dX7_type_93 : decode cX7_type 93 = .ok (.putfield 104, 3) := by decide +kernel
theorem dX7_type_96 : decode cX7_type 96 = .ok (.iinc 4 1, 3) := by decide +kernel
theorem dX7_type_99 : decode cX7_type 99 = .ok (.goto (-29), 3) := by decide +kernel
theorem dX7_type_102 : decode cX7_type 102 = .ok (.aload_n 0, 1) := by decide +kernel
theorem dX7_type_103 : decode cX7_type 103 = .ok (.getfield 104, 3) := by decide +kernel
theorem dX7_type_106 : decode cX7_type 106 = .ok (.ireturn, 1) := by decide +kernel
theorem dX7_wipe_0 : decode cX7_wipe 0 = .ok (.aload_n 0, 1) := by decide +kernel
theorem dX7_wipe_1 : decode cX7_wipe 1 = .ok (.iconst 0, 1) := by decide +kernel
theorem dX7_wipe_2 : decode cX7_wipe 2 = .ok (.putfield 72, 3) := by decide +kernel
theorem dX7_wipe_5 : decode cX7_wipe 5 = .ok (.aload_n 0, 1) := by decide +kernel
theorem dX7_wipe_6 : decode cX7_wipe 6 = .ok (.getfield 104, 3) := by decide +kernel
theorem dX7_wipe_9 : decode cX7_wipe 9 = .ok (.istore_n 1, 1) := by decide +kernel
theorem dX7_wipe_10 : decode cX7_wipe 10 = .ok (.aload_n 0, 1) := by decide +kernel
theorem dX7_wipe_11 : decode cX7_wipe 11 = .ok (.iconst 0, 1) := by decide +kernel
theorem dX7_wipe_12 : decode cX7_wipe 12 = .ok (.putfield 104, 3) := by decide +kernel
theorem dX7_wipe_15 : decode cX7_wipe 15 = .ok (.iload_n 1, 1) := by decide +kernel
theorem dX7_wipe_16 : decode cX7_wipe 16 = .ok (.ireturn, 1) := by decide +kernel
theorem dX7_starts_0 : decode cX7_starts 0 = .ok (.aload_n 0, 1) := by decide +kernel
theorem dX7_starts_1 : decode cX7_starts 1 = .ok (.iconst 0, 1) := by decide +kernel
theorem dX7_starts_2 : decode cX7_starts 2 = .ok (.putfield 107, 3) := by decide +kernel
theorem dX7_starts_5 : decode cX7_starts 5 = .ok (.aload_n 0, 1) := by decide +kernel
theorem dX7_starts_6 : decode cX7_starts 6 = .ok (.iconst 0, 1) := by decide +kernel
theorem dX7_starts_7 : decode cX7_starts 7 = .ok (.putfield 110, 3) := by decide +kernel
theorem dX7_starts_10 : decode cX7_starts 10 = .ok (.aload_n 0, 1) := by decide +kernel
theorem dX7_starts_11 : decode cX7_starts 11 = .ok (.iconst 0, 1) := by decide +kernel
theorem dX7_starts_12 : decode cX7_starts 12 = .ok (.putfield 113, 3) := by decide +kernel
theorem dX7_starts_15 : decode cX7_starts 15 = .ok (.aload_n 0, 1) := by decide +kernel
theorem dX7_starts_16 : decode cX7_starts 16 = .ok (.iconst 0, 1) := by decide +kernel
theorem dX7_starts_17 : decode cX7_starts 17 = .ok (.putfield 116, 3) := by decide +kernel
theorem dX7_starts_20 : decode cX7_starts 20 = .ok (.return_, 1) := by decide +kernel
theorem dX7_goes_0 : decode cX7_goes 0 = .ok (.iload_n 3, 1) := by decide +kernel
theorem dX7_goes_1 : decode cX7_goes 1 = .ok (.bipush 43, 2) := by decide +kernel
theorem dX7_goes_3 : decode cX7_goes 3 = .ok (.if_icmp .ne 50, 3) := by decide +kernel
theorem dX7_goes_6 : decode cX7_goes 6 = .ok (.aload_n 0, 1) := by decide +kernel
theorem dX7_goes_7 : decode cX7_goes 7 = .ok (.aload_n 0, 1) := by decide +kernel
theorem dX7_goes_8 : decode cX7_goes 8 = .ok (.getfield 110, 3) := by decide +kernel
theorem dX7_goes_11 : decode cX7_goes 11 = .ok (.aload_n 0, 1) := by decide +kernel
theorem dX7_goes_12 : decode cX7_goes 12 = .ok (.getfield 22, 3) := by decide +kernel
theorem dX7_goes_15 : decode cX7_goes 15 = .ok (.iload_n 2, 1) := by decide +kernel
theorem dX7_goes_16 : decode cX7_goes 16 = .ok (.iaload, 1) := by decide +kernel
theorem dX7_goes_17 : decode cX7_goes 17 = .ok (.iadd, 1) := by decide +kernel
theorem dX7_goes_18 : decode cX7_goes 18 = .ok (.aload_n 0, 1) := by decide +kernel
theorem dX7_goes_19 : decode cX7_goes 19 = .ok (.getfield 19, 3) := by decide +kernel
theorem dX7_goes_22 : decode cX7_goes 22 = .ok (.iload_n 2, 1) := by decide +kernel
theorem dX7_goes_23 : decode cX7_goes 23 = .ok (.iaload, 1) := by decide +kernel
theorem dX7_goes_24 : decode cX7_goes 24 = .ok (.if_icmp .le 12, 3) := by decide +kernel
theorem dX7_goes_27 : decode cX7_goes 27 = .ok (.aload_n 0, 1) := by decide +kernel
theorem dX7_goes_28 : decode cX7_goes 28 = .ok (.getfield 19, 3) := by decide +kernel
theorem dX7_goes_31 : decode cX7_goes 31 = .ok (.iload_n 2, 1) := by decide +kernel
theorem dX7_goes_32 : decode cX7_goes 32 = .ok (.iaload, 1) := by decide +kernel
theorem dX7_goes_33 : decode cX7_goes 33 = .ok (.goto 14, 3) := by decide +kernel
theorem dX7_goes_36 : decode cX7_goes 36 = .ok (.aload_n 0, 1) := by decide +kernel
theorem dX7_goes_37 : decode cX7_goes 37 = .ok (.getfield 110, 3) := by decide +kernel
theorem dX7_goes_40 : decode cX7_goes 40 = .ok (.aload_n 0, 1) := by decide +kernel
theorem dX7_goes_41 : decode cX7_goes 41 = .ok (.getfield 22, 3) := by decide +kernel
theorem dX7_goes_44 : decode cX7_goes 44 = .ok (.iload_n 2, 1) := by decide +kernel
theorem dX7_goes_45 : decode cX7_goes 45 = .ok (.iaload, 1) := by decide +kernel
theorem dX7_goes_46 : decode cX7_goes 46 = .ok (.iadd, 1) := by decide +kernel
theorem dX7_goes_47 : decode cX7_goes 47 = .ok (.putfield 110, 3) := by decide +kernel
theorem dX7_goes_50 : decode cX7_goes 50 = .ok (.goto 41, 3) := by decide +kernel
theorem dX7_goes_53 : decode cX7_goes 53 = .ok (.iload_n 3, 1) := by decide +kernel
theorem dX7_goes_54 : decode cX7_goes 54 = .ok (.bipush 45, 2) := by decide +kernel
theorem dX7_goes_56 : decode cX7_goes 56 = .ok (.if_icmp .ne 35, 3) := by decide +kernel
theorem dX7_goes_59 : decode cX7_goes 59 = .ok (.aload_n 0, 1) := by decide +kernel
theorem dX7_goes_60 : decode cX7_goes 60 = .ok (.aload_n 0, 1) := by decide +kernel
theorem dX7_goes_61 : decode cX7_goes 61 = .ok (.getfield 110, 3) := by decide +kernel
theorem dX7_goes_64 : decode cX7_goes 64 = .ok (.aload_n 0, 1) := by decide +kernel
theorem dX7_goes_65 : decode cX7_goes 65 = .ok (.getfield 22, 3) := by decide +kernel
theorem dX7_goes_68 : decode cX7_goes 68 = .ok (.iload_n 2, 1) := by decide +kernel
theorem dX7_goes_69 : decode cX7_goes 69 = .ok (.iaload, 1) := by decide +kernel
theorem dX7_goes_70 : decode cX7_goes 70 = .ok (.if_icmp .ge 7, 3) := by decide +kernel
theorem dX7_goes_73 : decode cX7_goes 73 = .ok (.iconst 0, 1) := by decide +kernel
theorem dX7_goes_74 : decode cX7_goes 74 = .ok (.goto 14, 3) := by decide +kernel
theorem dX7_goes_77 : decode cX7_goes 77 = .ok (.aload_n 0, 1) := by decide +kernel
theorem dX7_goes_78 : decode cX7_goes 78 = .ok (.getfield 110, 3) := by decide +kernel
theorem dX7_goes_81 : decode cX7_goes 81 = .ok (.aload_n 0, 1) := by decide +kernel
theorem dX7_goes_82 : decode cX7_goes 82 = .ok (.getfield 22, 3) := by decide +kernel
theorem dX7_goes_85 : decode cX7_goes 85 = .ok (.iload_n 2, 1) := by decide +kernel
theorem dX7_goes_86 : decode cX7_goes 86 = .ok (.iaload, 1) := by decide +kernel
theorem dX7_goes_87 : decode cX7_goes 87 = .ok (.isub, 1) := by decide +kernel
theorem dX7_goes_88 : decode cX7_goes 88 = .ok (.putfield 110, 3) := by decide +kernel
theorem dX7_goes_91 : decode cX7_goes 91 = .ok (.aload_n 0, 1) := by decide +kernel
theorem dX7_goes_92 : decode cX7_goes 92 = .ok (.dup, 1) := by decide +kernel
theorem dX7_goes_93 : decode cX7_goes 93 = .ok (.getfield 107, 3) := by decide +kernel
theorem dX7_goes_96 : decode cX7_goes 96 = .ok (.aload_n 0, 1) := by decide +kernel
theorem dX7_goes_97 : decode cX7_goes 97 = .ok (.getfield 110, 3) := by decide +kernel
theorem dX7_goes_100 : decode cX7_goes 100 = .ok (.iadd, 1) := by decide +kernel
theorem dX7_goes_101 : decode cX7_goes 101 = .ok (.putfield 107, 3) := by decide +kernel
theorem dX7_goes_104 : decode cX7_goes 104 = .ok (.aload_n 0, 1) := by decide +kernel
theorem dX7_goes_105 : decode cX7_goes 105 = .ok (.dup, 1) := by decide +kernel
theorem dX7_goes_106 : decode cX7_goes 106 = .ok (.getfield 113, 3) := by decide +kernel
theorem dX7_goes_109 : decode cX7_goes 109 = .ok (.iconst 1, 1) := by decide +kernel
theorem dX7_goes_110 : decode cX7_goes 110 = .ok (.iadd, 1) := by decide +kernel
theorem dX7_goes_111 : decode cX7_goes 111 = .ok (.putfield 113, 3) := by decide +kernel
theorem dX7_goes_114 : decode cX7_goes 114 = .ok (.aload_n 0, 1) := by decide +kernel
theorem dX7_goes_115 : decode cX7_goes 115 = .ok (.aload_n 0, 1) := by decide +kernel
theorem dX7_goes_116 : decode cX7_goes 116 = .ok (.getfield 107, 3) := by decide +kernel
theorem dX7_goes_119 : decode cX7_goes 119 = .ok (.aload_n 0, 1) := by decide +kernel
theorem dX7_goes_120 : decode cX7_goes 120 = .ok (.iload_n 1, 1) := by decide +kernel
theorem dX7_goes_121 : decode cX7_goes 121 = .ok (.invokevirtual 96, 3) := by decide +kernel
theorem dX7_goes_124 : decode cX7_goes 124 = .ok (.if_icmp .lt 7, 3) := by decide +kernel
theorem dX7_goes_127 : decode cX7_goes 127 = .ok (.iconst 1, 1) := by decide +kernel
theorem dX7_goes_128 : decode cX7_goes 128 = .ok (.goto 4, 3) := by decide +kernel
theorem dX7_goes_131 : decode cX7_goes 131 = .ok (.iconst 0, 1) := by decide +kernel
theorem dX7_goes_132 : decode cX7_goes 132 = .ok (.putfield 116, 3) := by decide +kernel
theorem dX7_goes_135 : decode cX7_goes 135 = .ok (.aload_n 0, 1) := by decide +kernel
theorem dX7_goes_136 : decode cX7_goes 136 = .ok (.getfield 116, 3) := by decide +kernel
theorem dX7_goes_139 : decode cX7_goes 139 = .ok (.ifCond .ne 36, 3) := by decide +kernel
theorem dX7_goes_142 : decode cX7_goes 142 = .ok (.aload_n 0, 1) := by decide +kernel
theorem dX7_goes_143 : decode cX7_goes 143 = .ok (.getfield 110, 3) := by decide +kernel
theorem dX7_goes_146 : decode cX7_goes 146 = .ok (.aload_n 0, 1) := by decide +kernel
theorem dX7_goes_147 : decode cX7_goes 147 = .ok (.iload_n 1, 1) := by decide +kernel
theorem dX7_goes_148 : decode cX7_goes 148 = .ok (.aload_n 0, 1) := by decide +kernel
theorem dX7_goes_149 : decode cX7_goes 149 = .ok (.getfield 107, 3) := by decide +kernel
theorem dX7_goes_152 : decode cX7_goes 152 = .ok (.invokevirtual 100, 3) := by decide +kernel
theorem dX7_goes_155 : decode cX7_goes 155 = .ok (.aload_n 0, 1) := by decide +kernel
theorem dX7_goes_156 : decode cX7_goes 156 = .ok (.getfield 25, 3) := by decide +kernel
theorem dX7_goes_159 : decode cX7_goes 159 = .ok (.iload_n 2, 1) := by decide +kernel
theorem dX7_goes_160 : decode cX7_goes 160 = .ok (.iaload, 1) := by decide +kernel
theorem dX7_goes_161 : decode cX7_goes 161 = .ok (.iadd, 1) := by decide +kernel
theorem dX7_goes_162 : decode cX7_goes 162 = .ok (.if_icmp .le 13, 3) := by decide +kernel
theorem dX7_goes_165 : decode cX7_goes 165 = .ok (.aload_n 0, 1) := by decide +kernel
theorem dX7_goes_166 : decode cX7_goes 166 = .ok (.aload_n 0, 1) := by decide +kernel
theorem dX7_goes_167 : decode cX7_goes 167 = .ok (.getfield 110, 3) := by decide +kernel
theorem dX7_goes_170 : decode cX7_goes 170 = .ok (.iconst 2, 1) := by decide +kernel
theorem dX7_goes_171 : decode cX7_goes 171 = .ok (.idiv, 1) := by decide +kernel
theorem dX7_goes_172 : decode cX7_goes 172 = .ok (.putfield 110, 3) := by decide +kernel
theorem dX7_goes_175 : decode cX7_goes 175 = .ok (.return_, 1) := by decide +kernel
theorem dX7_drives_0 : decode cX7_drives 0 = .ok (.aload_n 0, 1) := by decide +kernel
theorem dX7_drives_1 : decode cX7_drives 1 = .ok (.invokevirtual 120, 3) := by decide +kernel
theorem dX7_drives_4 : decode cX7_drives 4 = .ok (.aload_n 0, 1) := by decide +kernel
theorem dX7_drives_5 : decode cX7_drives 5 = .ok (.getfield 113, 3) := by decide +kernel
theorem dX7_drives_8 : decode cX7_drives 8 = .ok (.aload_n 0, 1) := by decide +kernel
theorem dX7_drives_9 : decode cX7_drives 9 = .ok (.getfield 104, 3) := by decide +kernel
theorem dX7_drives_12 : decode cX7_drives 12 = .ok (.if_icmp .ge 28, 3) := by decide +kernel
theorem dX7_drives_15 : decode cX7_drives 15 = .ok (.aload_n 0, 1) := by decide +kernel
theorem dX7_drives_16 : decode cX7_drives 16 = .ok (.getfield 116, 3) := by decide +kernel
theorem dX7_drives_19 : decode cX7_drives 19 = .ok (.ifCond .ne 21, 3) := by decide +kernel
theorem dX7_drives_22 : decode cX7_drives 22 = .ok (.aload_n 0, 1) := by decide +kernel
theorem dX7_drives_23 : decode cX7_drives 23 = .ok (.iload_n 1, 1) := by decide +kernel
theorem dX7_drives_24 : decode cX7_drives 24 = .ok (.iload_n 2, 1) := by decide +kernel
theorem dX7_drives_25 : decode cX7_drives 25 = .ok (.aload_n 0, 1) := by decide +kernel
theorem dX7_drives_26 : decode cX7_drives 26 = .ok (.getfield 28, 3) := by decide +kernel
theorem dX7_drives_29 : decode cX7_drives 29 = .ok (.aload_n 0, 1) := by decide +kernel
theorem dX7_drives_30 : decode cX7_drives 30 = .ok (.getfield 113, 3) := by decide +kernel
theorem dX7_drives_33 : decode cX7_drives 33 = .ok (.caload, 1) := by decide +kernel
theorem dX7_drives_34 : decode cX7_drives 34 = .ok (.invokevirtual 123, 3) := by decide +kernel
theorem dX7_drives_37 : decode cX7_drives 37 = .ok (.goto (-33), 3) := by decide +kernel
theorem dX7_drives_40 : decode cX7_drives 40 = .ok (.return_, 1) := by decide +kernel
theorem dX7_timeNow_0 : decode cX7_timeNow 0 = .ok (.bipush 100, 2) := by decide +kernel
theorem dX7_timeNow_2 : decode cX7_timeNow 2 = .ok (.aload_n 0, 1) := by decide +kernel
theorem dX7_timeNow_3 : decode cX7_timeNow 3 = .ok (.getfield 113, 3) := by decide +kernel
theorem dX7_timeNow_6 : decode cX7_timeNow 6 = .ok (.imul, 1) := by decide +kernel
theorem dX7_timeNow_7 : decode cX7_timeNow 7 = .ok (.bipush 100, 2) := by decide +kernel
theorem dX7_timeNow_9 : decode cX7_timeNow 9 = .ok (.aload_n 0, 1) := by decide +kernel
theorem dX7_timeNow_10 : decode cX7_timeNow 10 = .ok (.getfield 107, 3) := by decide +kernel
theorem dX7_timeNow_13 : decode cX7_timeNow 13 = .ok (.aload_n 0, 1) := by decide +kernel
theorem dX7_timeNow_14 : decode cX7_timeNow 14 = .ok (.iload_n 1, 1) := by decide +kernel
theorem dX7_timeNow_15 : decode cX7_timeNow 15 = .ok (.invokevirtual 96, 3) := by decide +kernel
theorem dX7_timeNow_18 : decode cX7_timeNow 18 = .ok (.isub, 1) := by decide +kernel
theorem dX7_timeNow_19 : decode cX7_timeNow 19 = .ok (.imul, 1) := by decide +kernel
theorem dX7_timeNow_20 : decode cX7_timeNow 20 = .ok (.aload_n 0, 1) := by decide +kernel
theorem dX7_timeNow_21 : decode cX7_timeNow 21 = .ok (.getfield 110, 3) := by decide +kernel
theorem dX7_timeNow_24 : decode cX7_timeNow 24 = .ok (.idiv, 1) := by decide +kernel
theorem dX7_timeNow_25 : decode cX7_timeNow 25 = .ok (.isub, 1) := by decide +kernel
theorem dX7_timeNow_26 : decode cX7_timeNow 26 = .ok (.ireturn, 1) := by decide +kernel
theorem dX7_canDrive_0 : decode cX7_canDrive 0 = .ok (.aload_n 0, 1) := by decide +kernel
theorem dX7_canDrive_1 : decode cX7_canDrive 1 = .ok (.getfield 7, 3) := by decide +kernel
theorem dX7_canDrive_4 : decode cX7_canDrive 4 = .ok (.iload_n 1, 1) := by decide +kernel
theorem dX7_canDrive_5 : decode cX7_canDrive 5 = .ok (.iaload, 1) := by decide +kernel
theorem dX7_canDrive_6 : decode cX7_canDrive 6 = .ok (.ifCond .ne 5, 3) := by decide +kernel
theorem dX7_canDrive_9 : decode cX7_canDrive 9 = .ok (.iconst 0, 1) := by decide +kernel
theorem dX7_canDrive_10 : decode cX7_canDrive 10 = .ok (.ireturn, 1) := by decide +kernel
theorem dX7_canDrive_11 : decode cX7_canDrive 11 = .ok (.aload_n 0, 1) := by decide +kernel
theorem dX7_canDrive_12 : decode cX7_canDrive 12 = .ok (.iload_n 1, 1) := by decide +kernel
theorem dX7_canDrive_13 : decode cX7_canDrive 13 = .ok (.iload_n 2, 1) := by decide +kernel
theorem dX7_canDrive_14 : decode cX7_canDrive 14 = .ok (.invokevirtual 127, 3) := by decide +kernel
theorem dX7_canDrive_17 : decode cX7_canDrive 17 = .ok (.aload_n 0, 1) := by decide +kernel
theorem dX7_canDrive_18 : decode cX7_canDrive 18 = .ok (.getfield 116, 3) := by decide +kernel
theorem dX7_canDrive_21 : decode cX7_canDrive 21 = .ok (.ireturn, 1) := by decide +kernel
theorem dX7_isGhost_0 : decode cX7_isGhost 0 = .ok (.iload_n 1, 1) := by decide +kernel
theorem dX7_isGhost_1 : decode cX7_isGhost 1 = .ok (.iconst (-1), 1) := by decide +kernel
theorem dX7_isGhost_2 : decode cX7_isGhost 2 = .ok (.if_icmp .eq 30, 3) := by decide +kernel
theorem dX7_isGhost_5 : decode cX7_isGhost 5 = .ok (.aload_n 0, 1) := by decide +kernel
theorem dX7_isGhost_6 : decode cX7_isGhost 6 = .ok (.iload_n 1, 1) := by decide +kernel
theorem dX7_isGhost_7 : decode cX7_isGhost 7 = .ok (.invokevirtual 131, 3) := by decide +kernel
theorem dX7_isGhost_10 : decode cX7_isGhost 10 = .ok (.ifCond .ne 26, 3) := by decide +kernel
theorem dX7_isGhost_13 : decode cX7_isGhost 13 = .ok (.aload_n 0, 1) := by decide +kernel
theorem dX7_isGhost_14 : decode cX7_isGhost 14 = .ok (.getfield 47, 3) := by decide +kernel
theorem dX7_isGhost_17 : decode cX7_isGhost 17 = .ok (.iload_n 1, 1) := by decide +kernel
theorem dX7_isGhost_18 : decode cX7_isGhost 18 = .ok (.iaload, 1) := by decide +kernel
theorem dX7_isGhost_19 : decode cX7_isGhost 19 = .ok (.iload_n 2, 1) := by decide +kernel
theorem dX7_isGhost_20 : decode cX7_isGhost 20 = .ok (.if_icmp .ne 16, 3) := by decide +kernel
theorem dX7_isGhost_23 : decode cX7_isGhost 23 = .ok (.aload_n 0, 1) := by decide +kernel
theorem dX7_isGhost_24 : decode cX7_isGhost 24 = .ok (.getfield 62, 3) := by decide +kernel
theorem dX7_isGhost_27 : decode cX7_isGhost 27 = .ok (.iload_n 1, 1) := by decide +kernel
theorem dX7_isGhost_28 : decode cX7_isGhost 28 = .ok (.baload, 1) := by decide +kernel
theorem dX7_isGhost_29 : decode cX7_isGhost 29 = .ok (.ifCond .ne 7, 3) := by decide +kernel
theorem dX7_isGhost_32 : decode cX7_isGhost 32 = .ok (.iconst 1, 1) := by decide +kernel
theorem dX7_isGhost_33 : decode cX7_isGhost 33 = .ok (.goto 4, 3) := by decide +kernel
theorem dX7_isGhost_36 : decode cX7_isGhost 36 = .ok (.iconst 0, 1) := by decide +kernel
theorem dX7_isGhost_37 : decode cX7_isGhost 37 = .ok (.ireturn, 1) := by decide +kernel
theorem dX7_drive_0 : decode cX7_drive 0 = .ok (.iload_n 1, 1) := by decide +kernel
theorem dX7_drive_1 : decode cX7_drive 1 = .ok (.iconst 0, 1) := by decide +kernel
theorem dX7_drive_2 : decode cX7_drive 2 = .ok (.iconst 5, 1) := by decide +kernel
theorem dX7_drive_3 : decode cX7_drive 3 = .ok (.invokestatic 79, 3) := by decide +kernel
theorem dX7_drive_6 : decode cX7_drive 6 = .ok (.ifCond .eq 19, 3) := by decide +kernel
theorem dX7_drive_9 : decode cX7_drive 9 = .ok (.aload_n 0, 1) := by decide +kernel
theorem dX7_drive_10 : decode cX7_drive 10 = .ok (.iload_n 2, 1) := by decide +kernel
theorem dX7_drive_11 : decode cX7_drive 11 = .ok (.invokevirtual 93, 3) := by decide +kernel
theorem dX7_drive_14 : decode cX7_drive 14 = .ok (.ifCond .ne 11, 3) := by decide +kernel
theorem dX7_drive_17 : decode cX7_drive 17 = .ok (.aload_n 0, 1) := by decide +kernel
theorem dX7_drive_18 : decode cX7_drive 18 = .ok (.iload_n 3, 1) := by decide +kernel
theorem dX7_drive_19 : decode cX7_drive 19 = .ok (.invokevirtual 134, 3) := by decide +kernel
theorem dX7_drive_22 : decode cX7_drive 22 = .ok (.ifCond .eq 7, 3) := by decide +kernel
theorem dX7_drive_25 : decode cX7_drive 25 = .ok (.iconst 1, 1) := by decide +kernel
theorem dX7_drive_26 : decode cX7_drive 26 = .ok (.goto 44, 3) := by decide +kernel
theorem dX7_drive_29 : decode cX7_drive 29 = .ok (.aload_n 0, 1) := by decide +kernel
theorem dX7_drive_30 : decode cX7_drive 30 = .ok (.iload 4, 2) := by decide +kernel
theorem dX7_drive_32 : decode cX7_drive 32 = .ok (.iload_n 2, 1) := by decide +kernel
theorem dX7_drive_33 : decode cX7_drive 33 = .ok (.invokevirtual 137, 3) := by decide +kernel
theorem dX7_drive_36 : decode cX7_drive 36 = .ok (.ifCond .ne 7, 3) := by decide +kernel
theorem dX7_drive_39 : decode cX7_drive 39 = .ok (.iconst 2, 1) := by decide +kernel
theorem dX7_drive_40 : decode cX7_drive 40 = .ok (.goto 30, 3) := by decide +kernel
theorem dX7_drive_43 : decode cX7_drive 43 = .ok (.aload_n 0, 1) := by decide +kernel
theorem dX7_drive_44 : decode cX7_drive 44 = .ok (.iload_n 2, 1) := by decide +kernel
theorem dX7_drive_45 : decode cX7_drive 45 = .ok (.iload_n 3, 1) := by decide +kernel
theorem dX7_drive_46 : decode cX7_drive 46 = .ok (.invokevirtual 141, 3) := by decide +kernel
theorem dX7_drive_49 : decode cX7_drive 49 = .ok (.ifCond .ne 7, 3) := by decide +kernel
theorem dX7_drive_52 : decode cX7_drive 52 = .ok (.iconst 3, 1) := by decide +kernel
theorem dX7_drive_53 : decode cX7_drive 53 = .ok (.goto 17, 3) := by decide +kernel
theorem dX7_drive_56 : decode cX7_drive 56 = .ok (.aload_n 0, 1) := by decide +kernel
theorem dX7_drive_57 : decode cX7_drive 57 = .ok (.getfield 86, 3) := by decide +kernel
theorem dX7_drive_60 : decode cX7_drive 60 = .ok (.bipush 30, 2) := by decide +kernel
theorem dX7_drive_62 : decode cX7_drive 62 = .ok (.if_icmp .ne 7, 3) := by decide +kernel
theorem dX7_drive_65 : decode cX7_drive 65 = .ok (.iconst 4, 1) := by decide +kernel
theorem dX7_drive_66 : decode cX7_drive 66 = .ok (.goto 4, 3) := by decide +kernel
theorem dX7_drive_69 : decode cX7_drive 69 = .ok (.iconst 0, 1) := by decide +kernel
theorem dX7_drive_70 : decode cX7_drive 70 = .ok (.istore 5, 2) := by decide +kernel
theorem dX7_drive_72 : decode cX7_drive 72 = .ok (.aload_n 0, 1) := by decide +kernel
theorem dX7_drive_73 : decode cX7_drive 73 = .ok (.iload 5, 2) := by decide +kernel
theorem dX7_drive_75 : decode cX7_drive 75 = .ok (.invokevirtual 89, 3) := by decide +kernel
theorem dX7_drive_78 : decode cX7_drive 78 = .ok (.ifCond .eq 5, 3) := by decide +kernel
theorem dX7_drive_81 : decode cX7_drive 81 = .ok (.iconst 0, 1) := by decide +kernel
theorem dX7_drive_82 : decode cX7_drive 82 = .ok (.ireturn, 1) := by decide +kernel
theorem dX7_drive_83 : decode cX7_drive 83 = .ok (.aload_n 0, 1) := by decide +kernel
theorem dX7_drive_84 : decode cX7_drive 84 = .ok (.getfield 86, 3) := by decide +kernel
theorem dX7_drive_87 : decode cX7_drive 87 = .ok (.istore 6, 2) := by decide +kernel
theorem dX7_drive_89 : decode cX7_drive 89 = .ok (.aload_n 0, 1) := by decide +kernel
theorem dX7_drive_90 : decode cX7_drive 90 = .ok (.getfield 35, 3) := by decide +kernel
theorem dX7_drive_93 : decode cX7_drive 93 = .ok (.iload 6, 2) := by decide +kernel
theorem dX7_drive_95 : decode cX7_drive 95 = .ok (.aload_n 0, 1) := by decide +kernel
theorem dX7_drive_96 : decode cX7_drive 96 = .ok (.getfield 113, 3) := by decide +kernel
theorem dX7_drive_99 : decode cX7_drive 99 = .ok (.iastore, 1) := by decide +kernel
theorem dX7_drive_100 : decode cX7_drive 100 = .ok (.aload_n 0, 1) := by decide +kernel
theorem dX7_drive_101 : decode cX7_drive 101 = .ok (.getfield 38, 3) := by decide +kernel
theorem dX7_drive_104 : decode cX7_drive 104 = .ok (.iload 6, 2) := by decide +kernel
theorem dX7_drive_106 : decode cX7_drive 106 = .ok (.aload_n 0, 1) := by decide +kernel
theorem dX7_drive_107 : decode cX7_drive 107 = .ok (.iload_n 2, 1) := by decide +kernel
theorem dX7_drive_108 : decode cX7_drive 108 = .ok (.invokevirtual 144, 3) := by decide +kernel
theorem dX7_drive_111 : decode cX7_drive 111 = .ok (.iastore, 1) := by decide +kernel
theorem dX7_drive_112 : decode cX7_drive 112 = .ok (.iconst 0, 1) := by decide +kernel
theorem dX7_drive_113 : decode cX7_drive 113 = .ok (.istore 7, 2) := by decide +kernel
theorem dX7_drive_115 : decode cX7_drive 115 = .ok (.iload 7, 2) := by decide +kernel
theorem dX7_drive_117 : decode cX7_drive 117 = .ok (.aload_n 0, 1) := by decide +kernel
theorem dX7_drive_118 : decode cX7_drive 118 = .ok (.getfield 113, 3) := by decide +kernel
theorem dX7_drive_121 : decode cX7_drive 121 = .ok (.if_icmp .ge 29, 3) := by decide +kernel
theorem dX7_drive_124 : decode cX7_drive 124 = .ok (.aload_n 0, 1) := by decide +kernel
theorem dX7_drive_125 : decode cX7_drive 125 = .ok (.getfield 32, 3) := by decide +kernel
theorem dX7_drive_128 : decode cX7_drive 128 = .ok (.bipush 60, 2) := by decide +kernel
theorem dX7_drive_130 : decode cX7_drive 130 = .ok (.iload 6, 2) := by decide +kernel
theorem dX7_drive_132 : decode cX7_drive 132 = .ok (.imul, 1) := by decide +kernel
theorem dX7_drive_133 : decode cX7_drive 133 = .ok (.iload 7, 2) := by decide +kernel
theorem dX7_drive_135 : decode cX7_drive 135 = .ok (.iadd, 1) := by decide +kernel
theorem dX7_drive_136 : decode cX7_drive 136 = .ok (.aload_n 0, 1) := by decide +kernel
theorem dX7_drive_137 : decode cX7_drive 137 = .ok (.getfield 28, 3) := by decide +kernel
theorem dX7_drive_140 : decode cX7_drive 140 = .ok (.iload 7, 2) := by decide +kernel
theorem dX7_drive_142 : decode cX7_drive 142 = .ok (.caload, 1) := by decide +kernel
theorem dX7_drive_143 : decode cX7_drive 143 = .ok (.castore, 1) := by decide +kernel
theorem dX7_drive_144 : decode cX7_drive 144 = .ok (.iinc 7 1, 3) := by decide +kernel
theorem dX7_drive_147 : decode cX7_drive 147 = .ok (.goto (-32), 3) := by decide +kernel
theorem dX7_drive_150 : decode cX7_drive 150 = .ok (.aload_n 0, 1) := by decide +kernel
theorem dX7_drive_151 : decode cX7_drive 151 = .ok (.getfield 44, 3) := by decide +kernel
theorem dX7_drive_154 : decode cX7_drive 154 = .ok (.iload 6, 2) := by decide +kernel
theorem dX7_drive_156 : decode cX7_drive 156 = .ok (.iload_n 1, 1) := by decide +kernel
theorem dX7_drive_157 : decode cX7_drive 157 = .ok (.iastore, 1) := by decide +kernel
theorem dX7_drive_158 : decode cX7_drive 158 = .ok (.aload_n 0, 1) := by decide +kernel
theorem dX7_drive_159 : decode cX7_drive 159 = .ok (.getfield 47, 3) := by decide +kernel
theorem dX7_drive_162 : decode cX7_drive 162 = .ok (.iload 6, 2) := by decide +kernel
theorem dX7_drive_164 : decode cX7_drive 164 = .ok (.iload_n 2, 1) := by decide +kernel
theorem dX7_drive_165 : decode cX7_drive 165 = .ok (.iastore, 1) := by decide +kernel
theorem dX7_drive_166 : decode cX7_drive 166 = .ok (.aload_n 0, 1) := by decide +kernel
theorem dX7_drive_167 : decode cX7_drive 167 = .ok (.getfield 50, 3) := by decide +kernel
theorem dX7_drive_170 : decode cX7_drive 170 = .ok (.iload 6, 2) := by decide +kernel
theorem dX7_drive_172 : decode cX7_drive 172 = .ok (.iload_n 3, 1) := by decide +kernel
theorem dX7_drive_173 : decode cX7_drive 173 = .ok (.iastore, 1) := by decide +kernel
theorem dX7_drive_174 : decode cX7_drive 174 = .ok (.aload_n 0, 1) := by decide +kernel
theorem dX7_drive_175 : decode cX7_drive 175 = .ok (.getfield 53, 3) := by decide +kernel
theorem dX7_drive_178 : decode cX7_drive 178 = .ok (.iload 6, 2) := by decide +kernel
theorem dX7_drive_180 : decode cX7_drive 180 = .ok (.iload 4, 2) := by decide +kernel
theorem dX7_drive_182 : decode cX7_drive 182 = .ok (.iastore, 1) := by decide +kernel
theorem dX7_drive_183 : decode cX7_drive 183 = .ok (.aload_n 0, 1) := by decide +kernel
theorem dX7_drive_184 : decode cX7_drive 184 = .ok (.getfield 56, 3) := by decide +kernel
theorem dX7_drive_187 : decode cX7_drive 187 = .ok (.iload 6, 2) := by decide +kernel
theorem dX7_drive_189 : decode cX7_drive 189 = .ok (.aload_n 0, 1) := by decide +kernel
theorem dX7_drive_190 : decode cX7_drive 190 = .ok (.getfield 147, 3) := by decide +kernel
theorem dX7_drive_193 : decode cX7_drive 193 = .ok (.ifCond .eq 27, 3) := by decide +kernel
theorem dX7_drive_196 : decode cX7_drive 196 = .ok (.aload_n 0, 1) := by decide +kernel
theorem dX7_drive_197 : decode cX7_drive 197 = .ok (.getfield 66, 3) := by decide +kernel
theorem dX7_drive_200 : decode cX7_drive 200 = .ok (.aload_n 0, 1) := by decide +kernel
theorem dX7_drive_201 : decode cX7_drive 201 = .ok (.getfield 150, 3) := by decide +kernel
theorem dX7_drive_204 : decode cX7_drive 204 = .ok (.iconst 1, 1) := by decide +kernel
theorem dX7_drive_205 : decode cX7_drive 205 = .ok (.isub, 1) := by decide +kernel
theorem dX7_drive_206 : decode cX7_drive 206 = .ok (.iaload, 1) := by decide +kernel
theorem dX7_drive_207 : decode cX7_drive 207 = .ok (.iload_n 2, 1) := by decide +kernel
theorem dX7_drive_208 : decode cX7_drive 208 = .ok (.if_icmp .ne 12, 3) := by decide +kernel
theorem dX7_drive_211 : decode cX7_drive 211 = .ok (.aload_n 0, 1) := by decide +kernel
theorem dX7_drive_212 : decode cX7_drive 212 = .ok (.getfield 150, 3) := by decide +kernel
theorem dX7_drive_215 : decode cX7_drive 215 = .ok (.iconst 1, 1) := by decide +kernel
theorem dX7_drive_216 : decode cX7_drive 216 = .ok (.isub, 1) := by decide +kernel
theorem dX7_drive_217 : decode cX7_drive 217 = .ok (.goto 4, 3) := by decide +kernel
theorem dX7_drive_220 : decode cX7_drive 220 = .ok (.iconst (-1), 1) := by decide +kernel
theorem dX7_drive_221 : decode cX7_drive 221 = .ok (.iastore, 1) := by decide +kernel
theorem dX7_drive_222 : decode cX7_drive 222 = .ok (.aload_n 0, 1) := by decide +kernel
theorem dX7_drive_223 : decode cX7_drive 223 = .ok (.getfield 59, 3) := by decide +kernel
theorem dX7_drive_226 : decode cX7_drive 226 = .ok (.iload 6, 2) := by decide +kernel
theorem dX7_drive_228 : decode cX7_drive 228 = .ok (.iload 4, 2) := by decide +kernel
theorem dX7_drive_230 : decode cX7_drive 230 = .ok (.iconst (-1), 1) := by decide +kernel
theorem dX7_drive_231 : decode cX7_drive 231 = .ok (.if_icmp .eq 13, 3) := by decide +kernel
theorem dX7_drive_234 : decode cX7_drive 234 = .ok (.aload_n 0, 1) := by decide +kernel
theorem dX7_drive_235 : decode cX7_drive 235 = .ok (.iload 4, 2) := by decide +kernel
theorem dX7_drive_237 : decode cX7_drive 237 = .ok (.invokevirtual 153, 3) := by decide +kernel
theorem dX7_drive_240 : decode cX7_drive 240 = .ok (.iconst 5, 1) := by decide +kernel
theorem dX7_drive_241 : decode cX7_drive 241 = .ok (.if_icmp .ne 7, 3) := by decide +kernel
theorem dX7_drive_244 : decode cX7_drive 244 = .ok (.iconst (-1), 1) := by decide +kernel
theorem dX7_drive_245 : decode cX7_drive 245 = .ok (.goto 5, 3) := by decide +kernel
theorem dX7_drive_248 : decode cX7_drive 248 = .ok (.iload 4, 2) := by decide +kernel
theorem dX7_drive_250 : decode cX7_drive 250 = .ok (.iastore, 1) := by decide +kernel
theorem dX7_drive_251 : decode cX7_drive 251 = .ok (.aload_n 0, 1) := by decide +kernel
theorem dX7_drive_252 : decode cX7_drive 252 = .ok (.dup, 1) := by decide +kernel
theorem dX7_drive_253 : decode cX7_drive 253 = .ok (.getfield 86, 3) := by decide +kernel
theorem dX7_drive_256 : decode cX7_drive 256 = .ok (.iconst 1, 1) := by decide +kernel
theorem dX7_drive_257 : decode cX7_drive 257 = .ok (.iadd, 1) := by decide +kernel
theorem dX7_drive_258 : decode cX7_drive 258 = .ok (.putfield 86, 3) := by decide +kernel
theorem dX7_drive_261 : decode cX7_drive 261 = .ok (.aload_n 0, 1) := by decide +kernel
theorem dX7_drive_262 : decode cX7_drive 262 = .ok (.iconst 0, 1) := by decide +kernel
theorem dX7_drive_263 : decode cX7_drive 263 = .ok (.putfield 104, 3) := by decide +kernel
theorem dX7_drive_266 : decode cX7_drive 266 = .ok (.iload 6, 2) := by decide +kernel
theorem dX7_drive_268 : decode cX7_drive 268 = .ok (.ireturn, 1) := by decide +kernel
theorem dX7_tryOut_0 : decode cX7_tryOut 0 = .ok (.aload_n 0, 1) := by decide +kernel
theorem dX7_tryOut_1 : decode cX7_tryOut 1 = .ok (.iload_n 1, 1) := by decide +kernel
theorem dX7_tryOut_2 : decode cX7_tryOut 2 = .ok (.invokevirtual 93, 3) := by decide +kernel
theorem dX7_tryOut_5 : decode cX7_tryOut 5 = .ok (.ifCond .ne 11, 3) := by decide +kernel
theorem dX7_tryOut_8 : decode cX7_tryOut 8 = .ok (.aload_n 0, 1) := by decide +kernel
theorem dX7_tryOut_9 : decode cX7_tryOut 9 = .ok (.iload_n 2, 1) := by decide +kernel
theorem dX7_tryOut_10 : decode cX7_tryOut 10 = .ok (.invokevirtual 134, 3) := by decide +kernel
theorem dX7_tryOut_13 : decode cX7_tryOut 13 = .ok (.ifCond .eq 7, 3) := by decide +kernel
theorem dX7_tryOut_16 : decode cX7_tryOut 16 = .ok (.iconst 1, 1) := by decide +kernel
theorem dX7_tryOut_17 : decode cX7_tryOut 17 = .ok (.goto 17, 3) := by decide +kernel
theorem dX7_tryOut_20 : decode cX7_tryOut 20 = .ok (.aload_n 0, 1) := by decide +kernel
theorem dX7_tryOut_21 : decode cX7_tryOut 21 = .ok (.iload_n 1, 1) := by decide +kernel
theorem dX7_tryOut_22 : decode cX7_tryOut 22 = .ok (.iload_n 2, 1) := by decide +kernel
theorem dX7_tryOut_23 : decode cX7_tryOut 23 = .ok (.invokevirtual 141, 3) := by decide +kernel
theorem dX7_tryOut_26 : decode cX7_tryOut 26 = .ok (.ifCond .ne 7, 3) := by decide +kernel
theorem dX7_tryOut_29 : decode cX7_tryOut 29 = .ok (.iconst 2, 1) := by decide +kernel
theorem dX7_tryOut_30 : decode cX7_tryOut 30 = .ok (.goto 4, 3) := by decide +kernel
theorem dX7_tryOut_33 : decode cX7_tryOut 33 = .ok (.iconst 0, 1) := by decide +kernel
theorem dX7_tryOut_34 : decode cX7_tryOut 34 = .ok (.istore_n 3, 1) := by decide +kernel
theorem dX7_tryOut_35 : decode cX7_tryOut 35 = .ok (.aload_n 0, 1) := by decide +kernel
theorem dX7_tryOut_36 : decode cX7_tryOut 36 = .ok (.iload_n 3, 1) := by decide +kernel
theorem dX7_tryOut_37 : decode cX7_tryOut 37 = .ok (.invokevirtual 89, 3) := by decide +kernel
theorem dX7_tryOut_40 : decode cX7_tryOut 40 = .ok (.ifCond .eq 7, 3) := by decide +kernel
theorem dX7_tryOut_43 : decode cX7_tryOut 43 = .ok (.iconst 0, 1) := by decide +kernel
theorem dX7_tryOut_44 : decode cX7_tryOut 44 = .ok (.goto 8, 3) := by decide +kernel
theorem dX7_tryOut_47 : decode cX7_tryOut 47 = .ok (.aload_n 0, 1) := by decide +kernel
theorem dX7_tryOut_48 : decode cX7_tryOut 48 = .ok (.iload_n 1, 1) := by decide +kernel
theorem dX7_tryOut_49 : decode cX7_tryOut 49 = .ok (.invokevirtual 144, 3) := by decide +kernel
theorem dX7_tryOut_52 : decode cX7_tryOut 52 = .ok (.ireturn, 1) := by decide +kernel
theorem dX7_laps_0 : decode cX7_laps 0 = .ok (.aload_n 0, 1) := by decide +kernel
theorem dX7_laps_1 : decode cX7_laps 1 = .ok (.iconst 0, 1) := by decide +kernel
theorem dX7_laps_2 : decode cX7_laps 2 = .ok (.putfield 72, 3) := by decide +kernel
theorem dX7_laps_5 : decode cX7_laps 5 = .ok (.aload_n 0, 1) := by decide +kernel
theorem dX7_laps_6 : decode cX7_laps 6 = .ok (.getfield 86, 3) := by decide +kernel
theorem dX7_laps_9 : decode cX7_laps 9 = .ok (.ireturn, 1) := by decide +kernel
theorem dX7_countOf_0 : decode cX7_countOf 0 = .ok (.aload_n 0, 1) := by decide +kernel
theorem dX7_countOf_1 : decode cX7_countOf 1 = .ok (.getfield 38, 3) := by decide +kernel
theorem dX7_countOf_4 : decode cX7_countOf 4 = .ok (.iload_n 1, 1) := by decide +kernel
theorem dX7_countOf_5 : decode cX7_countOf 5 = .ok (.iaload, 1) := by decide +kernel
theorem dX7_countOf_6 : decode cX7_countOf 6 = .ok (.aload_n 0, 1) := by decide +kernel
theorem dX7_countOf_7 : decode cX7_countOf 7 = .ok (.getfield 41, 3) := by decide +kernel
theorem dX7_countOf_10 : decode cX7_countOf 10 = .ok (.iload_n 1, 1) := by decide +kernel
theorem dX7_countOf_11 : decode cX7_countOf 11 = .ok (.iaload, 1) := by decide +kernel
theorem dX7_countOf_12 : decode cX7_countOf 12 = .ok (.iadd, 1) := by decide +kernel
theorem dX7_countOf_13 : decode cX7_countOf 13 = .ok (.ireturn, 1) := by decide +kernel
theorem dX7_time_0 : decode cX7_time 0 = .ok (.aload_n 0, 1) := by decide +kernel
theorem dX7_time_1 : decode cX7_time 1 = .ok (.aload_n 0, 1) := by decide +kernel
theorem dX7_time_2 : decode cX7_time 2 = .ok (.iload_n 1, 1) := by decide +kernel
theorem dX7_time_3 : decode cX7_time 3 = .ok (.invokevirtual 131, 3) := by decide +kernel
theorem dX7_time_6 : decode cX7_time 6 = .ok (.ifCond .eq 7, 3) := by decide +kernel
theorem dX7_time_9 : decode cX7_time 9 = .ok (.iconst 1, 1) := by decide +kernel
theorem dX7_time_10 : decode cX7_time 10 = .ok (.goto 4, 3) := by decide +kernel
theorem dX7_time_13 : decode cX7_time 13 = .ok (.iconst 0, 1) := by decide +kernel
theorem dX7_time_14 : decode cX7_time 14 = .ok (.invokevirtual 89, 3) := by decide +kernel
theorem dX7_time_17 : decode cX7_time 17 = .ok (.ifCond .eq 7, 3) := by decide +kernel
theorem dX7_time_20 : decode cX7_time 20 = .ok (.iconst 0, 1) := by decide +kernel
theorem dX7_time_21 : decode cX7_time 21 = .ok (.goto 21, 3) := by decide +kernel
theorem dX7_time_24 : decode cX7_time 24 = .ok (.iload_n 2, 1) := by decide +kernel
theorem dX7_time_25 : decode cX7_time 25 = .ok (.ifCond .eq 11, 3) := by decide +kernel
theorem dX7_time_28 : decode cX7_time 28 = .ok (.aload_n 0, 1) := by decide +kernel
theorem dX7_time_29 : decode cX7_time 29 = .ok (.iload_n 1, 1) := by decide +kernel
theorem dX7_time_30 : decode cX7_time 30 = .ok (.invokevirtual 156, 3) := by decide +kernel
theorem dX7_time_33 : decode cX7_time 33 = .ok (.goto 9, 3) := by decide +kernel
theorem dX7_time_36 : decode cX7_time 36 = .ok (.aload_n 0, 1) := by decide +kernel
theorem dX7_time_37 : decode cX7_time 37 = .ok (.getfield 38, 3) := by decide +kernel
theorem dX7_time_40 : decode cX7_time 40 = .ok (.iload_n 1, 1) := by decide +kernel
theorem dX7_time_41 : decode cX7_time 41 = .ok (.iaload, 1) := by decide +kernel
theorem dX7_time_42 : decode cX7_time 42 = .ok (.ireturn, 1) := by decide +kernel
theorem dX7_ticks_0 : decode cX7_ticks 0 = .ok (.aload_n 0, 1) := by decide +kernel
theorem dX7_ticks_1 : decode cX7_ticks 1 = .ok (.aload_n 0, 1) := by decide +kernel
theorem dX7_ticks_2 : decode cX7_ticks 2 = .ok (.iload_n 1, 1) := by decide +kernel
theorem dX7_ticks_3 : decode cX7_ticks 3 = .ok (.invokevirtual 131, 3) := by decide +kernel
theorem dX7_ticks_6 : decode cX7_ticks 6 = .ok (.ifCond .eq 7, 3) := by decide +kernel
theorem dX7_ticks_9 : decode cX7_ticks 9 = .ok (.iconst 1, 1) := by decide +kernel
theorem dX7_ticks_10 : decode cX7_ticks 10 = .ok (.goto 4, 3) := by decide +kernel
theorem dX7_ticks_13 : decode cX7_ticks 13 = .ok (.iconst 0, 1) := by decide +kernel
theorem dX7_ticks_14 : decode cX7_ticks 14 = .ok (.invokevirtual 89, 3) := by decide +kernel
theorem dX7_ticks_17 : decode cX7_ticks 17 = .ok (.ifCond .eq 7, 3) := by decide +kernel
theorem dX7_ticks_20 : decode cX7_ticks 20 = .ok (.iconst 0, 1) := by decide +kernel
theorem dX7_ticks_21 : decode cX7_ticks 21 = .ok (.goto 9, 3) := by decide +kernel
theorem dX7_ticks_24 : decode cX7_ticks 24 = .ok (.aload_n 0, 1) := by decide +kernel
theorem dX7_ticks_25 : decode cX7_ticks 25 = .ok (.getfield 35, 3) := by decide +kernel
theorem dX7_ticks_28 : decode cX7_ticks 28 = .ok (.iload_n 1, 1) := by decide +kernel
theorem dX7_ticks_29 : decode cX7_ticks 29 = .ok (.iaload, 1) := by decide +kernel
theorem dX7_ticks_30 : decode cX7_ticks 30 = .ok (.ireturn, 1) := by decide +kernel
theorem dX7_inputAt_0 : decode cX7_inputAt 0 = .ok (.aload_n 0, 1) := by decide +kernel
theorem dX7_inputAt_1 : decode cX7_inputAt 1 = .ok (.aload_n 0, 1) := by decide +kernel
theorem dX7_inputAt_2 : decode cX7_inputAt 2 = .ok (.iload_n 1, 1) := by decide +kernel
theorem dX7_inputAt_3 : decode cX7_inputAt 3 = .ok (.invokevirtual 131, 3) := by decide +kernel
theorem dX7_inputAt_6 : decode cX7_inputAt 6 = .ok (.ifCond .eq 7, 3) := by decide +kernel
theorem dX7_inputAt_9 : decode cX7_inputAt 9 = .ok (.iconst 1, 1) := by decide +kernel
theorem dX7_inputAt_10 : decode cX7_inputAt 10 = .ok (.goto 24, 3) := by decide +kernel
theorem dX7_inputAt_13 : decode cX7_inputAt 13 = .ok (.iload_n 2, 1) := by decide +kernel
theorem dX7_inputAt_14 : decode cX7_inputAt 14 = .ok (.iconst 0, 1) := by decide +kernel
theorem dX7_inputAt_15 : decode cX7_inputAt 15 = .ok (.aload_n 0, 1) := by decide +kernel
theorem dX7_inputAt_16 : decode cX7_inputAt 16 = .ok (.getfield 35, 3) := by decide +kernel
theorem dX7_inputAt_19 : decode cX7_inputAt 19 = .ok (.iload_n 1, 1) := by decide +kernel
theorem dX7_inputAt_20 : decode cX7_inputAt 20 = .ok (.iaload, 1) := by decide +kernel
theorem dX7_inputAt_21 : decode cX7_inputAt 21 = .ok (.iconst 1, 1) := by decide +kernel
theorem dX7_inputAt_22 : decode cX7_inputAt 22 = .ok (.isub, 1) := by decide +kernel
theorem dX7_inputAt_23 : decode cX7_inputAt 23 = .ok (.invokestatic 79, 3) := by decide +kernel
theorem dX7_inputAt_26 : decode cX7_inputAt 26 = .ok (.ifCond .ne 7, 3) := by decide +kernel
theorem dX7_inputAt_29 : decode cX7_inputAt 29 = .ok (.iconst 2, 1) := by decide +kernel
theorem dX7_inputAt_30 : decode cX7_inputAt 30 = .ok (.goto 4, 3) := by decide +kernel
theorem dX7_inputAt_33 : decode cX7_inputAt 33 = .ok (.iconst 0, 1) := by decide +kernel
theorem dX7_inputAt_34 : decode cX7_inputAt 34 = .ok (.invokevirtual 89, 3) := by decide +kernel
theorem dX7_inputAt_37 : decode cX7_inputAt 37 = .ok (.ifCond .eq 8, 3) := by decide +kernel
theorem dX7_inputAt_40 : decode cX7_inputAt 40 = .ok (.bipush 32, 2) := by decide +kernel
theorem dX7_inputAt_42 : decode cX7_inputAt 42 = .ok (.goto 14, 3) := by decide +kernel
theorem dX7_inputAt_45 : decode cX7_inputAt 45 = .ok (.aload_n 0, 1) := by decide +kernel
theorem dX7_inputAt_46 : decode cX7_inputAt 46 = .ok (.getfield 32, 3) := by decide +kernel
theorem dX7_inputAt_49 : decode cX7_inputAt 49 = .ok (.bipush 60, 2) := by decide +kernel
theorem dX7_inputAt_51 : decode cX7_inputAt 51 = .ok (.iload_n 1, 1) := by decide +kernel
theorem dX7_inputAt_52 : decode cX7_inputAt 52 = .ok (.imul, 1) := by decide +kernel
theorem dX7_inputAt_53 : decode cX7_inputAt 53 = .ok (.iload_n 2, 1) := by decide +kernel
theorem dX7_inputAt_54 : decode cX7_inputAt 54 = .ok (.iadd, 1) := by decide +kernel
theorem dX7_inputAt_55 : decode cX7_inputAt 55 = .ok (.caload, 1) := by decide +kernel
theorem dX7_inputAt_56 : decode cX7_inputAt 56 = .ok (.ireturn, 1) := by decide +kernel
theorem dX7_replay_0 : decode cX7_replay 0 = .ok (.aload_n 0, 1) := by decide +kernel
theorem dX7_replay_1 : decode cX7_replay 1 = .ok (.aload_n 0, 1) := by decide +kernel
theorem dX7_replay_2 : decode cX7_replay 2 = .ok (.iload_n 1, 1) := by decide +kernel
theorem dX7_replay_3 : decode cX7_replay 3 = .ok (.invokevirtual 131, 3) := by decide +kernel
theorem dX7_replay_6 : decode cX7_replay 6 = .ok (.ifCond .eq 7, 3) := by decide +kernel
theorem dX7_replay_9 : decode cX7_replay 9 = .ok (.iconst 1, 1) := by decide +kernel
theorem dX7_replay_10 : decode cX7_replay 10 = .ok (.goto 22, 3) := by decide +kernel
theorem dX7_replay_13 : decode cX7_replay 13 = .ok (.iload_n 2, 1) := by decide +kernel
theorem dX7_replay_14 : decode cX7_replay 14 = .ok (.iconst 0, 1) := by decide +kernel
theorem dX7_replay_15 : decode cX7_replay 15 = .ok (.aload_n 0, 1) := by decide +kernel
theorem dX7_replay_16 : decode cX7_replay 16 = .ok (.getfield 35, 3) := by decide +kernel
theorem dX7_replay_19 : decode cX7_replay 19 = .ok (.iload_n 1, 1) := by decide +kernel
theorem dX7_replay_20 : decode cX7_replay 20 = .ok (.iaload, 1) := by decide +kernel
theorem dX7_replay_21 : decode cX7_replay 21 = .ok (.invokestatic 79, 3) := by decide +kernel
theorem dX7_replay_24 : decode cX7_replay 24 = .ok (.ifCond .ne 7, 3) := by decide +kernel
theorem dX7_replay_27 : decode cX7_replay 27 = .ok (.iconst 2, 1) := by decide +kernel
theorem dX7_replay_28 : decode cX7_replay 28 = .ok (.goto 4, 3) := by decide +kernel
theorem dX7_replay_31 : decode cX7_replay 31 = .ok (.iconst 0, 1) := by decide +kernel
theorem dX7_replay_32 : decode cX7_replay 32 = .ok (.invokevirtual 89, 3) := by decide +kernel
theorem dX7_replay_35 : decode cX7_replay 35 = .ok (.ifCond .eq 5, 3) := by decide +kernel
theorem dX7_replay_38 : decode cX7_replay 38 = .ok (.iconst 0, 1) := by decide +kernel
theorem dX7_replay_39 : decode cX7_replay 39 = .ok (.ireturn, 1) := by decide +kernel
theorem dX7_replay_40 : decode cX7_replay 40 = .ok (.aload_n 0, 1) := by decide +kernel
theorem dX7_replay_41 : decode cX7_replay 41 = .ok (.invokevirtual 120, 3) := by decide +kernel
theorem dX7_replay_44 : decode cX7_replay 44 = .ok (.aload_n 0, 1) := by decide +kernel
theorem dX7_replay_45 : decode cX7_replay 45 = .ok (.getfield 113, 3) := by decide +kernel
theorem dX7_replay_48 : decode cX7_replay 48 = .ok (.iload_n 2, 1) := by decide +kernel
theorem dX7_replay_49 : decode cX7_replay 49 = .ok (.if_icmp .ge 36, 3) := by decide +kernel
theorem dX7_replay_52 : decode cX7_replay 52 = .ok (.aload_n 0, 1) := by decide +kernel
theorem dX7_replay_53 : decode cX7_replay 53 = .ok (.aload_n 0, 1) := by decide +kernel
theorem dX7_replay_54 : decode cX7_replay 54 = .ok (.getfield 47, 3) := by decide +kernel
theorem dX7_replay_57 : decode cX7_replay 57 = .ok (.iload_n 1, 1) := by decide +kernel
theorem dX7_replay_58 : decode cX7_replay 58 = .ok (.iaload, 1) := by decide +kernel
theorem dX7_replay_59 : decode cX7_replay 59 = .ok (.aload_n 0, 1) := by decide +kernel
theorem dX7_replay_60 : decode cX7_replay 60 = .ok (.getfield 50, 3) := by decide +kernel
theorem dX7_replay_63 : decode cX7_replay 63 = .ok (.iload_n 1, 1) := by decide +kernel
theorem dX7_replay_64 : decode cX7_replay 64 = .ok (.iaload, 1) := by decide +kernel
theorem dX7_replay_65 : decode cX7_replay 65 = .ok (.aload_n 0, 1) := by decide +kernel
theorem dX7_replay_66 : decode cX7_replay 66 = .ok (.getfield 32, 3) := by decide +kernel
theorem dX7_replay_69 : decode cX7_replay 69 = .ok (.bipush 60, 2) := by decide +kernel
theorem dX7_replay_71 : decode cX7_replay 71 = .ok (.iload_n 1, 1) := by decide +kernel
theorem dX7_replay_72 : decode cX7_replay 72 = .ok (.imul, 1) := by decide +kernel
theorem dX7_replay_73 : decode cX7_replay 73 = .ok (.aload_n 0, 1) := by decide +kernel
theorem dX7_replay_74 : decode cX7_replay 74 = .ok (.getfield 113, 3) := by decide +kernel
theorem dX7_replay_77 : decode cX7_replay 77 = .ok (.iadd, 1) := by decide +kernel
theorem dX7_replay_78 : decode cX7_replay 78 = .ok (.caload, 1) := by decide +kernel
theorem dX7_replay_79 : decode cX7_replay 79 = .ok (.invokevirtual 123, 3) := by decide +kernel
theorem dX7_replay_82 : decode cX7_replay 82 = .ok (.goto (-38), 3) := by decide +kernel
theorem dX7_replay_85 : decode cX7_replay 85 = .ok (.iload_n 3, 1) := by decide +kernel
theorem dX7_replay_86 : decode cX7_replay 86 = .ok (.ifCond .eq 10, 3) := by decide +kernel
theorem dX7_replay_89 : decode cX7_replay 89 = .ok (.aload_n 0, 1) := by decide +kernel
theorem dX7_replay_90 : decode cX7_replay 90 = .ok (.getfield 110, 3) := by decide +kernel
theorem dX7_replay_93 : decode cX7_replay 93 = .ok (.goto 7, 3) := by decide +kernel
theorem dX7_replay_96 : decode cX7_replay 96 = .ok (.aload_n 0, 1) := by decide +kernel
theorem dX7_replay_97 : decode cX7_replay 97 = .ok (.getfield 107, 3) := by decide +kernel
theorem dX7_replay_100 : decode cX7_replay 100 = .ok (.ireturn, 1) := by decide +kernel
theorem dX7_of_0 : decode cX7_of 0 = .ok (.iload_n 2, 1) := by decide +kernel
theorem dX7_of_1 : decode cX7_of 1 = .ok (.bipush 100, 2) := by decide +kernel
theorem dX7_of_3 : decode cX7_of 3 = .ok (.if_icmp .eq 27, 3) := by decide +kernel
theorem dX7_of_6 : decode cX7_of 6 = .ok (.iload_n 2, 1) := by decide +kernel
theorem dX7_of_7 : decode cX7_of 7 = .ok (.bipush 116, 2) := by decide +kernel
theorem dX7_of_9 : decode cX7_of 9 = .ok (.if_icmp .eq 21, 3) := by decide +kernel
theorem dX7_of_12 : decode cX7_of 12 = .ok (.iload_n 2, 1) := by decide +kernel
theorem dX7_of_13 : decode cX7_of 13 = .ok (.bipush 99, 2) := by decide +kernel
theorem dX7_of_15 : decode cX7_of 15 = .ok (.if_icmp .eq 15, 3) := by decide +kernel
theorem dX7_of_18 : decode cX7_of 18 = .ok (.iload_n 2, 1) := by decide +kernel
theorem dX7_of_19 : decode cX7_of 19 = .ok (.bipush 103, 2) := by decide +kernel
theorem dX7_of_21 : decode cX7_of 21 = .ok (.if_icmp .eq 9, 3) := by decide +kernel
theorem dX7_of_24 : decode cX7_of 24 = .ok (.iload_n 2, 1) := by decide +kernel
theorem dX7_of_25 : decode cX7_of 25 = .ok (.bipush 114, 2) := by decide +kernel
theorem dX7_of_27 : decode cX7_of 27 = .ok (.if_icmp .ne 7, 3) := by decide +kernel
theorem dX7_of_30 : decode cX7_of 30 = .ok (.iconst 1, 1) := by decide +kernel
theorem dX7_of_31 : decode cX7_of 31 = .ok (.goto 4, 3) := by decide +kernel
theorem dX7_of_34 : decode cX7_of 34 = .ok (.iconst 0, 1) := by decide +kernel
theorem dX7_of_35 : decode cX7_of 35 = .ok (.istore_n 3, 1) := by decide +kernel
theorem dX7_of_36 : decode cX7_of 36 = .ok (.aload_n 0, 1) := by decide +kernel
theorem dX7_of_37 : decode cX7_of 37 = .ok (.aload_n 0, 1) := by decide +kernel
theorem dX7_of_38 : decode cX7_of 38 = .ok (.iload_n 1, 1) := by decide +kernel
theorem dX7_of_39 : decode cX7_of 39 = .ok (.invokevirtual 131, 3) := by decide +kernel
theorem dX7_of_42 : decode cX7_of 42 = .ok (.ifCond .eq 7, 3) := by decide +kernel
theorem dX7_of_45 : decode cX7_of 45 = .ok (.iconst 1, 1) := by decide +kernel
theorem dX7_of_46 : decode cX7_of 46 = .ok (.goto 12, 3) := by decide +kernel
theorem dX7_of_49 : decode cX7_of 49 = .ok (.iload_n 3, 1) := by decide +kernel
theorem dX7_of_50 : decode cX7_of 50 = .ok (.ifCond .ne 7, 3) := by decide +kernel
theorem dX7_of_53 : decode cX7_of 53 = .ok (.iconst 2, 1) := by decide +kernel
theorem dX7_of_54 : decode cX7_of 54 = .ok (.goto 4, 3) := by decide +kernel
theorem dX7_of_57 : decode cX7_of 57 = .ok (.iconst 0, 1) := by decide +kernel
theorem dX7_of_58 : decode cX7_of 58 = .ok (.invokevirtual 89, 3) := by decide +kernel
theorem dX7_of_61 : decode cX7_of 61 = .ok (.ifCond .eq 5, 3) := by decide +kernel
theorem dX7_of_64 : decode cX7_of 64 = .ok (.iconst 0, 1) := by decide +kernel
theorem dX7_of_65 : decode cX7_of 65 = .ok (.ireturn, 1) := by decide +kernel
theorem dX7_of_66 : decode cX7_of 66 = .ok (.iload_n 2, 1) := by decide +kernel
theorem dX7_of_67 : decode cX7_of 67 = .ok (.bipush 100, 2) := by decide +kernel
theorem dX7_of_69 : decode cX7_of 69 = .ok (.if_icmp .ne 12, 3) := by decide +kernel
theorem dX7_of_72 : decode cX7_of 72 = .ok (.aload_n 0, 1) := by decide +kernel
theorem dX7_of_73 : decode cX7_of 73 = .ok (.getfield 44, 3) := by decide +kernel
theorem dX7_of_76 : decode cX7_of 76 = .ok (.iload_n 1, 1) := by decide +kernel
theorem dX7_of_77 : decode cX7_of 77 = .ok (.iaload, 1) := by decide +kernel
theorem dX7_of_78 : decode cX7_of 78 = .ok (.goto 54, 3) := by decide +kernel
theorem dX7_of_81 : decode cX7_of 81 = .ok (.iload_n 2, 1) := by decide +kernel
theorem dX7_of_82 : decode cX7_of 82 = .ok (.bipush 116, 2) := by decide +kernel
theorem dX7_of_84 : decode cX7_of 84 = .ok (.if_icmp .ne 12, 3) := by decide +kernel
theorem dX7_of_87 : decode cX7_of 87 = .ok (.aload_n 0, 1) := by decide +kernel
theorem dX7_of_88 : decode cX7_of 88 = .ok (.getfield 47, 3) := by decide +kernel
theorem dX7_of_91 : decode cX7_of 91 = .ok (.iload_n 1, 1) := by decide +kernel
theorem dX7_of_92 : decode cX7_of 92 = .ok (.iaload, 1) := by decide +kernel
theorem dX7_of_93 : decode cX7_of 93 = .ok (.goto 39, 3) := by decide +kernel
theorem dX7_of_96 : decode cX7_of 96 = .ok (.iload_n 2, 1) := by decide +kernel
theorem dX7_of_97 : decode cX7_of 97 = .ok (.bipush 99, 2) := by decide +kernel
theorem dX7_of_99 : decode cX7_of 99 = .ok (.if_icmp .ne 12, 3) := by decide +kernel
theorem dX7_of_102 : decode cX7_of 102 = .ok (.aload_n 0, 1) := by decide +kernel
theorem dX7_of_103 : decode cX7_of 103 = .ok (.getfield 50, 3) := by decide +kernel
theorem dX7_of_106 : decode cX7_of 106 = .ok (.iload_n 1, 1) := by decide +kernel
theorem dX7_of_107 : decode cX7_of 107 = .ok (.iaload, 1) := by decide +kernel
theorem dX7_of_108 : decode cX7_of 108 = .ok (.goto 24, 3) := by decide +kernel
theorem dX7_of_111 : decode cX7_of 111 = .ok (.iload_n 2, 1) := by decide +kernel
theorem dX7_of_112 : decode cX7_of 112 = .ok (.bipush 103, 2) := by decide +kernel
theorem dX7_of_114 : decode cX7_of 114 = .ok (.if_icmp .ne 12, 3) := by decide +kernel
theorem dX7_of_117 : decode cX7_of 117 = .ok (.aload_n 0, 1) := by decide +kernel
theorem dX7_of_118 : decode cX7_of 118 = .ok (.getfield 53, 3) := by decide +kernel
theorem dX7_of_121 : decode cX7_of 121 = .ok (.iload_n 1, 1) := by decide +kernel
theorem dX7_of_122 : decode cX7_of 122 = .ok (.iaload, 1) := by decide +kernel
theorem dX7_of_123 : decode cX7_of 123 = .ok (.goto 9, 3) := by decide +kernel
theorem dX7_of_126 : decode cX7_of 126 = .ok (.aload_n 0, 1) := by decide +kernel
theorem dX7_of_127 : decode cX7_of 127 = .ok (.getfield 56, 3) := by decide +kernel
theorem dX7_of_130 : decode cX7_of 130 = .ok (.iload_n 1, 1) := by decide +kernel
theorem dX7_of_131 : decode cX7_of 131 = .ok (.iaload, 1) := by decide +kernel
theorem dX7_of_132 : decode cX7_of 132 = .ok (.ireturn, 1) := by decide +kernel
theorem dX7_beats_0 : decode cX7_beats 0 = .ok (.aload_n 0, 1) := by decide +kernel
theorem dX7_beats_1 : decode cX7_beats 1 = .ok (.aload_n 0, 1) := by decide +kernel
theorem dX7_beats_2 : decode cX7_beats 2 = .ok (.iload_n 1, 1) := by decide +kernel
theorem dX7_beats_3 : decode cX7_beats 3 = .ok (.invokevirtual 131, 3) := by decide +kernel
theorem dX7_beats_6 : decode cX7_beats 6 = .ok (.ifCond .eq 7, 3) := by decide +kernel
theorem dX7_beats_9 : decode cX7_beats 9 = .ok (.iconst 1, 1) := by decide +kernel
theorem dX7_beats_10 : decode cX7_beats 10 = .ok (.goto 18, 3) := by decide +kernel
theorem dX7_beats_13 : decode cX7_beats 13 = .ok (.aload_n 0, 1) := by decide +kernel
theorem dX7_beats_14 : decode cX7_beats 14 = .ok (.getfield 53, 3) := by decide +kernel
theorem dX7_beats_17 : decode cX7_beats 17 = .ok (.iload_n 1, 1) := by decide +kernel
theorem dX7_beats_18 : decode cX7_beats 18 = .ok (.iaload, 1) := by decide +kernel
theorem dX7_beats_19 : decode cX7_beats 19 = .ok (.iconst (-1), 1) := by decide +kernel
theorem dX7_beats_20 : decode cX7_beats 20 = .ok (.if_icmp .ne 7, 3) := by decide +kernel
theorem dX7_beats_23 : decode cX7_beats 23 = .ok (.iconst 2, 1) := by decide +kernel
theorem dX7_beats_24 : decode cX7_beats 24 = .ok (.goto 4, 3) := by decide +kernel
theorem dX7_beats_27 : decode cX7_beats 27 = .ok (.iconst 0, 1) := by decide +kernel
theorem dX7_beats_28 : decode cX7_beats 28 = .ok (.invokevirtual 89, 3) := by decide +kernel
theorem dX7_beats_31 : decode cX7_beats 31 = .ok (.ifCond .ne 25, 3) := by decide +kernel
theorem dX7_beats_34 : decode cX7_beats 34 = .ok (.aload_n 0, 1) := by decide +kernel
theorem dX7_beats_35 : decode cX7_beats 35 = .ok (.iload_n 1, 1) := by decide +kernel
theorem dX7_beats_36 : decode cX7_beats 36 = .ok (.invokevirtual 156, 3) := by decide +kernel
theorem dX7_beats_39 : decode cX7_beats 39 = .ok (.aload_n 0, 1) := by decide +kernel
theorem dX7_beats_40 : decode cX7_beats 40 = .ok (.aload_n 0, 1) := by decide +kernel
theorem dX7_beats_41 : decode cX7_beats 41 = .ok (.getfield 53, 3) := by decide +kernel
theorem dX7_beats_44 : decode cX7_beats 44 = .ok (.iload_n 1, 1) := by decide +kernel
theorem dX7_beats_45 : decode cX7_beats 45 = .ok (.iaload, 1) := by decide +kernel
theorem dX7_beats_46 : decode cX7_beats 46 = .ok (.invokevirtual 156, 3) := by decide +kernel
theorem dX7_beats_49 : decode cX7_beats 49 = .ok (.if_icmp .ge 7, 3) := by decide +kernel
theorem dX7_beats_52 : decode cX7_beats 52 = .ok (.iconst 1, 1) := by decide +kernel
theorem dX7_beats_53 : decode cX7_beats 53 = .ok (.goto 4, 3) := by decide +kernel
theorem dX7_beats_56 : decode cX7_beats 56 = .ok (.iconst 0, 1) := by decide +kernel
theorem dX7_beats_57 : decode cX7_beats 57 = .ok (.ireturn, 1) := by decide +kernel
theorem dX7_least_0 : decode cX7_least 0 = .ok (.iconst (-1), 1) := by decide +kernel
theorem dX7_least_1 : decode cX7_least 1 = .ok (.istore_n 2, 1) := by decide +kernel
theorem dX7_least_2 : decode cX7_least 2 = .ok (.iconst 0, 1) := by decide +kernel
theorem dX7_least_3 : decode cX7_least 3 = .ok (.istore_n 3, 1) := by decide +kernel
theorem dX7_least_4 : decode cX7_least 4 = .ok (.iload_n 3, 1) := by decide +kernel
theorem dX7_least_5 : decode cX7_least 5 = .ok (.aload_n 0, 1) := by decide +kernel
theorem dX7_least_6 : decode cX7_least 6 = .ok (.getfield 86, 3) := by decide +kernel
theorem dX7_least_9 : decode cX7_least 9 = .ok (.if_icmp .ge 64, 3) := by decide +kernel
theorem dX7_least_12 : decode cX7_least 12 = .ok (.aload_n 0, 1) := by decide +kernel
theorem dX7_least_13 : decode cX7_least 13 = .ok (.getfield 47, 3) := by decide +kernel
theorem dX7_least_16 : decode cX7_least 16 = .ok (.iload_n 3, 1) := by decide +kernel
theorem dX7_least_17 : decode cX7_least 17 = .ok (.iaload, 1) := by decide +kernel
theorem dX7_least_18 : decode cX7_least 18 = .ok (.iload_n 1, 1) := by decide +kernel
theorem dX7_least_19 : decode cX7_least 19 = .ok (.if_icmp .ne 16, 3) := by decide +kernel
theorem dX7_least_22 : decode cX7_least 22 = .ok (.aload_n 0, 1) := by decide +kernel
theorem dX7_least_23 : decode cX7_least 23 = .ok (.getfield 62, 3) := by decide +kernel
theorem dX7_least_26 : decode cX7_least 26 = .ok (.iload_n 3, 1) := by decide +kernel
theorem dX7_least_27 : decode cX7_least 27 = .ok (.baload, 1) := by decide +kernel
theorem dX7_least_28 : decode cX7_least 28 = .ok (.ifCond .ne 7, 3) := by decide +kernel
theorem dX7_least_31 : decode cX7_least 31 = .ok (.iconst 1, 1) := by decide +kernel
theorem dX7_least_32 : decode cX7_least 32 = .ok (.goto 4, 3) := by decide +kernel
theorem dX7_least_35 : decode cX7_least 35 = .ok (.iconst 0, 1) := by decide +kernel
theorem dX7_least_36 : decode cX7_least 36 = .ok (.istore 4, 2) := by decide +kernel
theorem dX7_least_38 : decode cX7_least 38 = .ok (.iload 4, 2) := by decide +kernel
theorem dX7_least_40 : decode cX7_least 40 = .ok (.ifCond .eq 25, 3) := by decide +kernel
theorem dX7_least_43 : decode cX7_least 43 = .ok (.iload_n 2, 1) := by decide +kernel
theorem dX7_least_44 : decode cX7_least 44 = .ok (.iconst (-1), 1) := by decide +kernel
theorem dX7_least_45 : decode cX7_least 45 = .ok (.if_icmp .eq 16, 3) := by decide +kernel
theorem dX7_least_48 : decode cX7_least 48 = .ok (.aload_n 0, 1) := by decide +kernel
theorem dX7_least_49 : decode cX7_least 49 = .ok (.iload_n 3, 1) := by decide +kernel
theorem dX7_least_50 : decode cX7_least 50 = .ok (.invokevirtual 156, 3) := by decide +kernel
theorem dX7_least_53 : decode cX7_least 53 = .ok (.aload_n 0, 1) := by decide +kernel
theorem dX7_least_54 : decode cX7_least 54 = .ok (.iload_n 2, 1) := by decide +kernel
theorem dX7_least_55 : decode cX7_least 55 = .ok (.invokevirtual 156, 3) := by decide +kernel
theorem dX7_least_58 : decode cX7_least 58 = .ok (.if_icmp .ge 7, 3) := by decide +kernel
theorem dX7_least_61 : decode cX7_least 61 = .ok (.iload_n 3, 1) := by decide +kernel
theorem dX7_least_62 : decode cX7_least 62 = .ok (.goto 4, 3) := by decide +kernel
theorem dX7_least_65 : decode cX7_least 65 = .ok (.iload_n 2, 1) := by decide +kernel
theorem dX7_least_66 : decode cX7_least 66 = .ok (.istore_n 2, 1) := by decide +kernel
theorem dX7_least_67 : decode cX7_least 67 = .ok (.iinc 3 1, 3) := by decide +kernel
theorem dX7_least_70 : decode cX7_least 70 = .ok (.goto (-66), 3) := by decide +kernel
theorem dX7_least_73 : decode cX7_least 73 = .ok (.aload_n 0, 1) := by decide +kernel
theorem dX7_least_74 : decode cX7_least 74 = .ok (.aload_n 0, 1) := by decide +kernel
theorem dX7_least_75 : decode cX7_least 75 = .ok (.iload_n 1, 1) := by decide +kernel
theorem dX7_least_76 : decode cX7_least 76 = .ok (.invokevirtual 93, 3) := by decide +kernel
theorem dX7_least_79 : decode cX7_least 79 = .ok (.ifCond .eq 7, 3) := by decide +kernel
theorem dX7_least_82 : decode cX7_least 82 = .ok (.iconst 1, 1) := by decide +kernel
theorem dX7_least_83 : decode cX7_least 83 = .ok (.goto 13, 3) := by decide +kernel
theorem dX7_least_86 : decode cX7_least 86 = .ok (.iload_n 2, 1) := by decide +kernel
theorem dX7_least_87 : decode cX7_least 87 = .ok (.iconst (-1), 1) := by decide +kernel
theorem dX7_least_88 : decode cX7_least 88 = .ok (.if_icmp .ne 7, 3) := by decide +kernel
theorem dX7_least_91 : decode cX7_least 91 = .ok (.iconst 2, 1) := by decide +kernel
theorem dX7_least_92 : decode cX7_least 92 = .ok (.goto 4, 3) := by decide +kernel
theorem dX7_least_95 : decode cX7_least 95 = .ok (.iconst 0, 1) := by decide +kernel
theorem dX7_least_96 : decode cX7_least 96 = .ok (.invokevirtual 89, 3) := by decide +kernel
theorem dX7_least_99 : decode cX7_least 99 = .ok (.ifCond .eq 7, 3) := by decide +kernel
theorem dX7_least_102 : decode cX7_least 102 = .ok (.iconst 0, 1) := by decide +kernel
theorem dX7_least_103 : decode cX7_least 103 = .ok (.goto 4, 3) := by decide +kernel
theorem dX7_least_106 : decode cX7_least 106 = .ok (.iload_n 2, 1) := by decide +kernel
theorem dX7_least_107 : decode cX7_least 107 = .ok (.ireturn, 1) := by decide +kernel
theorem dX7_depthOf_0 : decode cX7_depthOf 0 = .ok (.iconst 0, 1) := by decide +kernel
theorem dX7_depthOf_1 : decode cX7_depthOf 1 = .ok (.istore_n 2, 1) := by decide +kernel
theorem dX7_depthOf_2 : decode cX7_depthOf 2 = .ok (.aload_n 0, 1) := by decide +kernel
theorem dX7_depthOf_3 : decode cX7_depthOf 3 = .ok (.getfield 59, 3) := by decide +kernel
theorem dX7_depthOf_6 : decode cX7_depthOf 6 = .ok (.iload_n 1, 1) := by decide +kernel
theorem dX7_depthOf_7 : decode cX7_depthOf 7 = .ok (.iaload, 1) := by decide +kernel
theorem dX7_depthOf_8 : decode cX7_depthOf 8 = .ok (.istore_n 3, 1) := by decide +kernel
theorem dX7_depthOf_9 : decode cX7_depthOf 9 = .ok (.iload_n 3, 1) := by decide +kernel
theorem dX7_depthOf_10 : decode cX7_depthOf 10 = .ok (.iconst (-1), 1) := by decide +kernel
theorem dX7_depthOf_11 : decode cX7_depthOf 11 = .ok (.if_icmp .eq 16, 3) := by decide +kernel
theorem dX7_depthOf_14 : decode cX7_depthOf 14 = .ok (.iinc 2 1, 3) := by decide +kernel
theorem dX7_depthOf_17 : decode cX7_depthOf 17 = .ok (.aload_n 0, 1) := by decide +kernel
theorem dX7_depthOf_18 : decode cX7_depthOf 18 = .ok (.getfield 59, 3) := by decide +kernel
theorem dX7_depthOf_21 : decode cX7_depthOf 21 = .ok (.iload_n 3, 1) := by decide +kernel
theorem dX7_depthOf_22 : decode cX7_depthOf 22 = .ok (.iaload, 1) := by decide +kernel
theorem dX7_depthOf_23 : decode cX7_depthOf 23 = .ok (.istore_n 3, 1) := by decide +kernel
theorem dX7_depthOf_24 : decode cX7_depthOf 24 = .ok (.goto (-15), 3) := by decide +kernel
theorem dX7_depthOf_27 : decode cX7_depthOf 27 = .ok (.iload_n 2, 1) := by decide +kernel
theorem dX7_depthOf_28 : decode cX7_depthOf 28 = .ok (.ireturn, 1) := by decide +kernel
theorem dX7_partsOf_0 : decode cX7_partsOf 0 = .ok (.aload_n 0, 1) := by decide +kernel
theorem dX7_partsOf_1 : decode cX7_partsOf 1 = .ok (.getfield 59, 3) := by decide +kernel
theorem dX7_partsOf_4 : decode cX7_partsOf 4 = .ok (.iload_n 1, 1) := by decide +kernel
theorem dX7_partsOf_5 : decode cX7_partsOf 5 = .ok (.iaload, 1) := by decide +kernel
theorem dX7_partsOf_6 : decode cX7_partsOf 6 = .ok (.iconst (-1), 1) := by decide +kernel
theorem dX7_partsOf_7 : decode cX7_partsOf 7 = .ok (.if_icmp .ne 10, 3) := by decide +kernel
theorem dX7_partsOf_10 : decode cX7_partsOf 10 = .ok (.aload_n 0, 1) := by decide +kernel
theorem dX7_partsOf_11 : decode cX7_partsOf 11 = .ok (.getfield 35, 3) := by decide +kernel
theorem dX7_partsOf_14 : decode cX7_partsOf 14 = .ok (.iload_n 1, 1) := by decide +kernel
theorem dX7_partsOf_15 : decode cX7_partsOf 15 = .ok (.iaload, 1) := by decide +kernel
theorem dX7_partsOf_16 : decode cX7_partsOf 16 = .ok (.ireturn, 1) := by decide +kernel
theorem dX7_partsOf_17 : decode cX7_partsOf 17 = .ok (.iconst 0, 1) := by decide +kernel
theorem dX7_partsOf_18 : decode cX7_partsOf 18 = .ok (.istore_n 2, 1) := by decide +kernel
theorem dX7_partsOf_19 : decode cX7_partsOf 19 = .ok (.iconst 0, 1) := by decide +kernel
theorem dX7_partsOf_20 : decode cX7_partsOf 20 = .ok (.istore_n 3, 1) := by decide +kernel
theorem dX7_partsOf_21 : decode cX7_partsOf 21 = .ok (.iload_n 3, 1) := by decide +kernel
theorem dX7_partsOf_22 : decode cX7_partsOf 22 = .ok (.aload_n 0, 1) := by decide +kernel
theorem dX7_partsOf_23 : decode cX7_partsOf 23 = .ok (.getfield 35, 3) := by decide +kernel
theorem dX7_partsOf_26 : decode cX7_partsOf 26 = .ok (.iload_n 1, 1) := by decide +kernel
theorem dX7_partsOf_27 : decode cX7_partsOf 27 = .ok (.iaload, 1) := by decide +kernel
theorem dX7_partsOf_28 : decode cX7_partsOf 28 = .ok (.if_icmp .ge 62, 3) := by decide +kernel
theorem dX7_partsOf_31 : decode cX7_partsOf 31 = .ok (.iload_n 2, 1) := by decide +kernel
theorem dX7_partsOf_32 : decode cX7_partsOf 32 = .ok (.iload_n 3, 1) := by decide +kernel
theorem dX7_partsOf_33 : decode cX7_partsOf 33 = .ok (.aload_n 0, 1) := by decide +kernel
theorem dX7_partsOf_34 : decode cX7_partsOf 34 = .ok (.getfield 35, 3) := by decide +kernel
theorem dX7_partsOf_37 : decode cX7_partsOf 37 = .ok (.aload_n 0, 1) := by decide +kernel
theorem dX7_partsOf_38 : decode cX7_partsOf 38 = .ok (.getfield 59, 3) := by decide +kernel
theorem dX7_partsOf_41 : decode cX7_partsOf 41 = .ok (.iload_n 1, 1) := by decide +kernel
theorem dX7_partsOf_42 : decode cX7_partsOf 42 = .ok (.iaload, 1) := by decide +kernel
theorem dX7_partsOf_43 : decode cX7_partsOf 43 = .ok (.iaload, 1) := by decide +kernel
theorem dX7_partsOf_44 : decode cX7_partsOf 44 = .ok (.if_icmp .ge 33, 3) := by decide +kernel
theorem dX7_partsOf_47 : decode cX7_partsOf 47 = .ok (.aload_n 0, 1) := by decide +kernel
theorem dX7_partsOf_48 : decode cX7_partsOf 48 = .ok (.getfield 32, 3) := by decide +kernel
theorem dX7_partsOf_51 : decode cX7_partsOf 51 = .ok (.bipush 60, 2) := by decide +kernel
theorem dX7_partsOf_53 : decode cX7_partsOf 53 = .ok (.iload_n 1, 1) := by decide +kernel
theorem dX7_partsOf_54 : decode cX7_partsOf 54 = .ok (.imul, 1) := by decide +kernel
theorem dX7_partsOf_55 : decode cX7_partsOf 55 = .ok (.iload_n 3, 1) := by decide +kernel
theorem dX7_partsOf_56 : decode cX7_partsOf 56 = .ok (.iadd, 1) := by decide +kernel
theorem dX7_partsOf_57 : decode cX7_partsOf 57 = .ok (.caload, 1) := by decide +kernel
theorem dX7_partsOf_58 : decode cX7_partsOf 58 = .ok (.aload_n 0, 1) := by decide +kernel
theorem dX7_partsOf_59 : decode cX7_partsOf 59 = .ok (.getfield 32, 3) := by decide +kernel
theorem dX7_partsOf_62 : decode cX7_partsOf 62 = .ok (.bipush 60, 2) := by decide +kernel
theorem dX7_partsOf_64 : decode cX7_partsOf 64 = .ok (.aload_n 0, 1) := by decide +kernel
theorem dX7_partsOf_65 : decode cX7_partsOf 65 = .ok (.getfield 59, 3) := by decide +kernel
theorem dX7_partsOf_68 : decode cX7_partsOf 68 = .ok (.iload_n 1, 1) := by decide +kernel
theorem dX7_partsOf_69 : decode cX7_partsOf 69 = .ok (.iaload, 1) := by decide +kernel
theorem dX7_partsOf_70 : decode cX7_partsOf 70 = .ok (.imul, 1) := by decide +kernel
theorem dX7_partsOf_71 : decode cX7_partsOf 71 = .ok (.iload_n 3, 1) := by decide +kernel
theorem dX7_partsOf_72 : decode cX7_partsOf 72 = .ok (.iadd, 1) := by decide +kernel
theorem dX7_partsOf_73 : decode cX7_partsOf 73 = .ok (.caload, 1) := by decide +kernel
theorem dX7_partsOf_74 : decode cX7_partsOf 74 = .ok (.if_icmp .eq 7, 3) := by decide +kernel
theorem dX7_partsOf_77 : decode cX7_partsOf 77 = .ok (.iconst 1, 1) := by decide +kernel
theorem dX7_partsOf_78 : decode cX7_partsOf 78 = .ok (.goto 4, 3) := by decide +kernel
theorem dX7_partsOf_81 : decode cX7_partsOf 81 = .ok (.iconst 0, 1) := by decide +kernel
theorem dX7_partsOf_82 : decode cX7_partsOf 82 = .ok (.iadd, 1) := by decide +kernel
theorem dX7_partsOf_83 : decode cX7_partsOf 83 = .ok (.istore_n 2, 1) := by decide +kernel
theorem dX7_partsOf_84 : decode cX7_partsOf 84 = .ok (.iinc 3 1, 3) := by decide +kernel
theorem dX7_partsOf_87 : decode cX7_partsOf 87 = .ok (.goto (-66), 3) := by decide +kernel
theorem dX7_partsOf_90 : decode cX7_partsOf 90 = .ok (.iload_n 2, 1) := by decide +kernel
theorem dX7_partsOf_91 : decode cX7_partsOf 91 = .ok (.ireturn, 1) := by decide +kernel
theorem dX7_base_0 : decode cX7_base 0 = .ok (.aload_n 0, 1) := by decide +kernel
theorem dX7_base_1 : decode cX7_base 1 = .ok (.aload_n 0, 1) := by decide +kernel
theorem dX7_base_2 : decode cX7_base 2 = .ok (.iload_n 1, 1) := by decide +kernel
theorem dX7_base_3 : decode cX7_base 3 = .ok (.invokevirtual 131, 3) := by decide +kernel
theorem dX7_base_6 : decode cX7_base 6 = .ok (.ifCond .eq 7, 3) := by decide +kernel
theorem dX7_base_9 : decode cX7_base 9 = .ok (.iconst 1, 1) := by decide +kernel
theorem dX7_base_10 : decode cX7_base 10 = .ok (.goto 18, 3) := by decide +kernel
theorem dX7_base_13 : decode cX7_base 13 = .ok (.aload_n 0, 1) := by decide +kernel
theorem dX7_base_14 : decode cX7_base 14 = .ok (.getfield 59, 3) := by decide +kernel
theorem dX7_base_17 : decode cX7_base 17 = .ok (.iload_n 1, 1) := by decide +kernel
theorem dX7_base_18 : decode cX7_base 18 = .ok (.iaload, 1) := by decide +kernel
theorem dX7_base_19 : decode cX7_base 19 = .ok (.iconst (-1), 1) := by decide +kernel
theorem dX7_base_20 : decode cX7_base 20 = .ok (.if_icmp .ne 7, 3) := by decide +kernel
theorem dX7_base_23 : decode cX7_base 23 = .ok (.iconst 2, 1) := by decide +kernel
theorem dX7_base_24 : decode cX7_base 24 = .ok (.goto 4, 3) := by decide +kernel
theorem dX7_base_27 : decode cX7_base 27 = .ok (.iconst 0, 1) := by decide +kernel
theorem dX7_base_28 : decode cX7_base 28 = .ok (.invokevirtual 89, 3) := by decide +kernel
theorem dX7_base_31 : decode cX7_base 31 = .ok (.ifCond .eq 7, 3) := by decide +kernel
theorem dX7_base_34 : decode cX7_base 34 = .ok (.iconst 0, 1) := by decide +kernel
theorem dX7_base_35 : decode cX7_base 35 = .ok (.goto 9, 3) := by decide +kernel
theorem dX7_base_38 : decode cX7_base 38 = .ok (.aload_n 0, 1) := by decide +kernel
theorem dX7_base_39 : decode cX7_base 39 = .ok (.getfield 59, 3) := by decide +kernel
theorem dX7_base_42 : decode cX7_base 42 = .ok (.iload_n 1, 1) := by decide +kernel
theorem dX7_base_43 : decode cX7_base 43 = .ok (.iaload, 1) := by decide +kernel
theorem dX7_base_44 : decode cX7_base 44 = .ok (.ireturn, 1) := by decide +kernel
theorem dX7_depth_0 : decode cX7_depth 0 = .ok (.aload_n 0, 1) := by decide +kernel
theorem dX7_depth_1 : decode cX7_depth 1 = .ok (.aload_n 0, 1) := by decide +kernel
theorem dX7_depth_2 : decode cX7_depth 2 = .ok (.iload_n 1, 1) := by decide +kernel
theorem dX7_depth_3 : decode cX7_depth 3 = .ok (.invokevirtual 131, 3) := by decide +kernel
theorem dX7_depth_6 : decode cX7_depth 6 = .ok (.ifCond .eq 7, 3) := by decide +kernel
theorem dX7_depth_9 : decode cX7_depth 9 = .ok (.iconst 1, 1) := by decide +kernel
theorem dX7_depth_10 : decode cX7_depth 10 = .ok (.goto 4, 3) := by decide +kernel
theorem dX7_depth_13 : decode cX7_depth 13 = .ok (.iconst 0, 1) := by decide +kernel
theorem dX7_depth_14 : decode cX7_depth 14 = .ok (.invokevirtual 89, 3) := by decide +kernel
theorem dX7_depth_17 : decode cX7_depth 17 = .ok (.ifCond .eq 7, 3) := by decide +kernel
theorem dX7_depth_20 : decode cX7_depth 20 = .ok (.iconst 0, 1) := by decide +kernel
theorem dX7_depth_21 : decode cX7_depth 21 = .ok (.goto 8, 3) := by decide +kernel
theorem dX7_depth_24 : decode cX7_depth 24 = .ok (.aload_n 0, 1) := by decide +kernel
theorem dX7_depth_25 : decode cX7_depth 25 = .ok (.iload_n 1, 1) := by decide +kernel
theorem dX7_depth_26 : decode cX7_depth 26 = .ok (.invokevirtual 153, 3) := by decide +kernel
theorem dX7_depth_29 : decode cX7_depth 29 = .ok (.ireturn, 1) := by decide +kernel
theorem dX7_parts_0 : decode cX7_parts 0 = .ok (.aload_n 0, 1) := by decide +kernel
theorem dX7_parts_1 : decode cX7_parts 1 = .ok (.aload_n 0, 1) := by decide +kernel
theorem dX7_parts_2 : decode cX7_parts 2 = .ok (.iload_n 1, 1) := by decide +kernel
theorem dX7_parts_3 : decode cX7_parts 3 = .ok (.invokevirtual 131, 3) := by decide +kernel
theorem dX7_parts_6 : decode cX7_parts 6 = .ok (.ifCond .eq 7, 3) := by decide +kernel
theorem dX7_parts_9 : decode cX7_parts 9 = .ok (.iconst 1, 1) := by decide +kernel
theorem dX7_parts_10 : decode cX7_parts 10 = .ok (.goto 4, 3) := by decide +kernel
theorem dX7_parts_13 : decode cX7_parts 13 = .ok (.iconst 0, 1) := by decide +kernel
theorem dX7_parts_14 : decode cX7_parts 14 = .ok (.invokevirtual 89, 3) := by decide +kernel
theorem dX7_parts_17 : decode cX7_parts 17 = .ok (.ifCond .eq 7, 3) := by decide +kernel
theorem dX7_parts_20 : decode cX7_parts 20 = .ok (.iconst 0, 1) := by decide +kernel
theorem dX7_parts_21 : decode cX7_parts 21 = .ok (.goto 8, 3) := by decide +kernel
theorem dX7_parts_24 : decode cX7_parts 24 = .ok (.aload_n 0, 1) := by decide +kernel
theorem dX7_parts_25 : decode cX7_parts 25 = .ok (.iload_n 1, 1) := by decide +kernel
theorem dX7_parts_26 : decode cX7_parts 26 = .ok (.invokevirtual 159, 3) := by decide +kernel
theorem dX7_parts_29 : decode cX7_parts 29 = .ok (.ireturn, 1) := by decide +kernel
theorem dX7_allParts_0 : decode cX7_allParts 0 = .ok (.iconst 0, 1) := by decide +kernel
theorem dX7_allParts_1 : decode cX7_allParts 1 = .ok (.istore_n 1, 1) := by decide +kernel
theorem dX7_allParts_2 : decode cX7_allParts 2 = .ok (.iconst 0, 1) := by decide +kernel
theorem dX7_allParts_3 : decode cX7_allParts 3 = .ok (.istore_n 2, 1) := by decide +kernel
theorem dX7_allParts_4 : decode cX7_allParts 4 = .ok (.iload_n 2, 1) := by decide +kernel
theorem dX7_allParts_5 : decode cX7_allParts 5 = .ok (.aload_n 0, 1) := by decide +kernel
theorem dX7_allParts_6 : decode cX7_allParts 6 = .ok (.getfield 86, 3) := by decide +kernel
theorem dX7_allParts_9 : decode cX7_allParts 9 = .ok (.if_icmp .ge 17, 3) := by decide +kernel
theorem dX7_allParts_12 : decode cX7_allParts 12 = .ok (.iload_n 1, 1) := by decide +kernel
theorem dX7_allParts_13 : decode cX7_allParts 13 = .ok (.aload_n 0, 1) := by decide +kernel
theorem dX7_allParts_14 : decode cX7_allParts 14 = .ok (.iload_n 2, 1) := by decide +kernel
theorem dX7_allParts_15 : decode cX7_allParts 15 = .ok (.invokevirtual 159, 3) := by decide +kernel
theorem dX7_allParts_18 : decode cX7_allParts 18 = .ok (.iadd, 1) := by decide +kernel
theorem dX7_allParts_19 : decode cX7_allParts 19 = .ok (.istore_n 1, 1) := by decide +kernel
theorem dX7_allParts_20 : decode cX7_allParts 20 = .ok (.iinc 2 1, 3) := by decide +kernel
theorem dX7_allParts_23 : decode cX7_allParts 23 = .ok (.goto (-19), 3) := by decide +kernel
theorem dX7_allParts_26 : decode cX7_allParts 26 = .ok (.iload_n 1, 1) := by decide +kernel
theorem dX7_allParts_27 : decode cX7_allParts 27 = .ok (.ireturn, 1) := by decide +kernel
theorem dX7_stored_0 : decode cX7_stored 0 = .ok (.aload_n 0, 1) := by decide +kernel
theorem dX7_stored_1 : decode cX7_stored 1 = .ok (.iconst 0, 1) := by decide +kernel
theorem dX7_stored_2 : decode cX7_stored 2 = .ok (.putfield 72, 3) := by decide +kernel
theorem dX7_stored_5 : decode cX7_stored 5 = .ok (.aload_n 0, 1) := by decide +kernel
theorem dX7_stored_6 : decode cX7_stored 6 = .ok (.invokevirtual 162, 3) := by decide +kernel
theorem dX7_stored_9 : decode cX7_stored 9 = .ok (.ireturn, 1) := by decide +kernel
theorem dX7_rests_0 : decode cX7_rests 0 = .ok (.aload_n 0, 1) := by decide +kernel
theorem dX7_rests_1 : decode cX7_rests 1 = .ok (.getfield 59, 3) := by decide +kernel
theorem dX7_rests_4 : decode cX7_rests 4 = .ok (.iload_n 1, 1) := by decide +kernel
theorem dX7_rests_5 : decode cX7_rests 5 = .ok (.iaload, 1) := by decide +kernel
theorem dX7_rests_6 : decode cX7_rests 6 = .ok (.istore_n 3, 1) := by decide +kernel
theorem dX7_rests_7 : decode cX7_rests 7 = .ok (.iload_n 3, 1) := by decide +kernel
theorem dX7_rests_8 : decode cX7_rests 8 = .ok (.iconst (-1), 1) := by decide +kernel
theorem dX7_rests_9 : decode cX7_rests 9 = .ok (.if_icmp .eq 18, 3) := by decide +kernel
theorem dX7_rests_12 : decode cX7_rests 12 = .ok (.iload_n 3, 1) := by decide +kernel
theorem dX7_rests_13 : decode cX7_rests 13 = .ok (.iload_n 2, 1) := by decide +kernel
theorem dX7_rests_14 : decode cX7_rests 14 = .ok (.if_icmp .eq 13, 3) := by decide +kernel
theorem dX7_rests_17 : decode cX7_rests 17 = .ok (.aload_n 0, 1) := by decide +kernel
theorem dX7_rests_18 : decode cX7_rests 18 = .ok (.getfield 59, 3) := by decide +kernel
theorem dX7_rests_21 : decode cX7_rests 21 = .ok (.iload_n 3, 1) := by decide +kernel
theorem dX7_rests_22 : decode cX7_rests 22 = .ok (.iaload, 1) := by decide +kernel
theorem dX7_rests_23 : decode cX7_rests 23 = .ok (.istore_n 3, 1) := by decide +kernel
theorem dX7_rests_24 : decode cX7_rests 24 = .ok (.goto (-17), 3) := by decide +kernel
theorem dX7_rests_27 : decode cX7_rests 27 = .ok (.iload_n 3, 1) := by decide +kernel
theorem dX7_rests_28 : decode cX7_rests 28 = .ok (.iconst (-1), 1) := by decide +kernel
theorem dX7_rests_29 : decode cX7_rests 29 = .ok (.if_icmp .eq 7, 3) := by decide +kernel
theorem dX7_rests_32 : decode cX7_rests 32 = .ok (.iconst 1, 1) := by decide +kernel
theorem dX7_rests_33 : decode cX7_rests 33 = .ok (.goto 4, 3) := by decide +kernel
theorem dX7_rests_36 : decode cX7_rests 36 = .ok (.iconst 0, 1) := by decide +kernel
theorem dX7_rests_37 : decode cX7_rests 37 = .ok (.ireturn, 1) := by decide +kernel
theorem dX7_resting_0 : decode cX7_resting 0 = .ok (.aload_n 0, 1) := by decide +kernel
theorem dX7_resting_1 : decode cX7_resting 1 = .ok (.aload_n 0, 1) := by decide +kernel
theorem dX7_resting_2 : decode cX7_resting 2 = .ok (.iload_n 1, 1) := by decide +kernel
theorem dX7_resting_3 : decode cX7_resting 3 = .ok (.invokevirtual 131, 3) := by decide +kernel
theorem dX7_resting_6 : decode cX7_resting 6 = .ok (.ifCond .eq 7, 3) := by decide +kernel
theorem dX7_resting_9 : decode cX7_resting 9 = .ok (.iconst 1, 1) := by decide +kernel
theorem dX7_resting_10 : decode cX7_resting 10 = .ok (.goto 4, 3) := by decide +kernel
theorem dX7_resting_13 : decode cX7_resting 13 = .ok (.iconst 0, 1) := by decide +kernel
theorem dX7_resting_14 : decode cX7_resting 14 = .ok (.invokevirtual 89, 3) := by decide +kernel
theorem dX7_resting_17 : decode cX7_resting 17 = .ok (.ifCond .eq 5, 3) := by decide +kernel
theorem dX7_resting_20 : decode cX7_resting 20 = .ok (.iconst 0, 1) := by decide +kernel
theorem dX7_resting_21 : decode cX7_resting 21 = .ok (.ireturn, 1) := by decide +kernel
theorem dX7_resting_22 : decode cX7_resting 22 = .ok (.iconst 0, 1) := by decide +kernel
theorem dX7_resting_23 : decode cX7_resting 23 = .ok (.istore_n 2, 1) := by decide +kernel
theorem dX7_resting_24 : decode cX7_resting 24 = .ok (.iconst 0, 1) := by decide +kernel
theorem dX7_resting_25 : decode cX7_resting 25 = .ok (.istore_n 3, 1) := by decide +kernel
theorem dX7_resting_26 : decode cX7_resting 26 = .ok (.iload_n 3, 1) := by decide +kernel
theorem dX7_resting_27 : decode cX7_resting 27 = .ok (.aload_n 0, 1) := by decide +kernel
theorem dX7_resting_28 : decode cX7_resting 28 = .ok (.getfield 86, 3) := by decide +kernel
theorem dX7_resting_31 : decode cX7_resting 31 = .ok (.if_icmp .ge 26, 3) := by decide +kernel
theorem dX7_resting_34 : decode cX7_resting 34 = .ok (.iload_n 2, 1) := by decide +kernel
theorem dX7_resting_35 : decode cX7_resting 35 = .ok (.aload_n 0, 1) := by decide +kernel
theorem dX7_resting_36 : decode cX7_resting 36 = .ok (.iload_n 3, 1) := by decide +kernel
theorem dX7_resting_37 : decode cX7_resting 37 = .ok (.iload_n 1, 1) := by decide +kernel
theorem dX7_resting_38 : decode cX7_resting 38 = .ok (.invokevirtual 166, 3) := by decide +kernel
theorem dX7_resting_41 : decode cX7_resting 41 = .ok (.ifCond .eq 7, 3) := by decide +kernel
theorem dX7_resting_44 : decode cX7_resting 44 = .ok (.iconst 1, 1) := by decide +kernel
theorem dX7_resting_45 : decode cX7_resting 45 = .ok (.goto 4, 3) := by decide +kernel
theorem dX7_resting_48 : decode cX7_resting 48 = .ok (.iconst 0, 1) := by decide +kernel
theorem dX7_resting_49 : decode cX7_resting 49 = .ok (.iadd, 1) := by decide +kernel
theorem dX7_resting_50 : decode cX7_resting 50 = .ok (.istore_n 2, 1) := by decide +kernel
theorem dX7_resting_51 : decode cX7_resting 51 = .ok (.iinc 3 1, 3) := by decide +kernel
theorem dX7_resting_54 : decode cX7_resting 54 = .ok (.goto (-28), 3) := by decide +kernel
theorem dX7_resting_57 : decode cX7_resting 57 = .ok (.iload_n 2, 1) := by decide +kernel
theorem dX7_resting_58 : decode cX7_resting 58 = .ok (.ireturn, 1) := by decide +kernel
theorem dX7_strike_0 : decode cX7_strike 0 = .ok (.aload_n 0, 1) := by decide +kernel
theorem dX7_strike_1 : decode cX7_strike 1 = .ok (.aload_n 0, 1) := by decide +kernel
theorem dX7_strike_2 : decode cX7_strike 2 = .ok (.iload_n 1, 1) := by decide +kernel
theorem dX7_strike_3 : decode cX7_strike 3 = .ok (.invokevirtual 131, 3) := by decide +kernel
theorem dX7_strike_6 : decode cX7_strike 6 = .ok (.ifCond .eq 7, 3) := by decide +kernel
theorem dX7_strike_9 : decode cX7_strike 9 = .ok (.iconst 1, 1) := by decide +kernel
theorem dX7_strike_10 : decode cX7_strike 10 = .ok (.goto 17, 3) := by decide +kernel
theorem dX7_strike_13 : decode cX7_strike 13 = .ok (.aload_n 0, 1) := by decide +kernel
theorem dX7_strike_14 : decode cX7_strike 14 = .ok (.getfield 62, 3) := by decide +kernel
theorem dX7_strike_17 : decode cX7_strike 17 = .ok (.iload_n 1, 1) := by decide +kernel
theorem dX7_strike_18 : decode cX7_strike 18 = .ok (.baload, 1) := by decide +kernel
theorem dX7_strike_19 : decode cX7_strike 19 = .ok (.ifCond .eq 7, 3) := by decide +kernel
theorem dX7_strike_22 : decode cX7_strike 22 = .ok (.iconst 2, 1) := by decide +kernel
theorem dX7_strike_23 : decode cX7_strike 23 = .ok (.goto 4, 3) := by decide +kernel
theorem dX7_strike_26 : decode cX7_strike 26 = .ok (.iconst 0, 1) := by decide +kernel
theorem dX7_strike_27 : decode cX7_strike 27 = .ok (.invokevirtual 89, 3) := by decide +kernel
theorem dX7_strike_30 : decode cX7_strike 30 = .ok (.ifCond .eq 5, 3) := by decide +kernel
theorem dX7_strike_33 : decode cX7_strike 33 = .ok (.iconst 0, 1) := by decide +kernel
theorem dX7_strike_34 : decode cX7_strike 34 = .ok (.ireturn, 1) := by decide +kernel
theorem dX7_strike_35 : decode cX7_strike 35 = .ok (.aload_n 0, 1) := by decide +kernel
theorem dX7_strike_36 : decode cX7_strike 36 = .ok (.getfield 62, 3) := by decide +kernel
theorem dX7_strike_39 : decode cX7_strike 39 = .ok (.iload_n 1, 1) := by decide +kernel
theorem dX7_strike_40 : decode cX7_strike 40 = .ok (.iconst 1, 1) := by decide +kernel
theorem dX7_strike_41 : decode cX7_strike 41 = .ok (.bastore, 1) := by decide +kernel
theorem dX7_strike_42 : decode cX7_strike 42 = .ok (.iconst 0, 1) := by decide +kernel
theorem dX7_strike_43 : decode cX7_strike 43 = .ok (.istore_n 2, 1) := by decide +kernel
theorem dX7_strike_44 : decode cX7_strike 44 = .ok (.iconst 0, 1) := by decide +kernel
theorem dX7_strike_45 : decode cX7_strike 45 = .ok (.istore_n 3, 1) := by decide +kernel
theorem dX7_strike_46 : decode cX7_strike 46 = .ok (.iload_n 3, 1) := by decide +kernel
theorem dX7_strike_47 : decode cX7_strike 47 = .ok (.aload_n 0, 1) := by decide +kernel
theorem dX7_strike_48 : decode cX7_strike 48 = .ok (.getfield 86, 3) := by decide +kernel
theorem dX7_strike_51 : decode cX7_strike 51 = .ok (.if_icmp .ge 34, 3) := by decide +kernel
theorem dX7_strike_54 : decode cX7_strike 54 = .ok (.aload_n 0, 1) := by decide +kernel
theorem dX7_strike_55 : decode cX7_strike 55 = .ok (.getfield 59, 3) := by decide +kernel
theorem dX7_strike_58 : decode cX7_strike 58 = .ok (.iload_n 3, 1) := by decide +kernel
theorem dX7_strike_59 : decode cX7_strike 59 = .ok (.iaload, 1) := by decide +kernel
theorem dX7_strike_60 : decode cX7_strike 60 = .ok (.iload_n 1, 1) := by decide +kernel
theorem dX7_strike_61 : decode cX7_strike 61 = .ok (.if_icmp .ne 18, 3) := by decide +kernel
theorem dX7_strike_64 : decode cX7_strike 64 = .ok (.aload_n 0, 1) := by decide +kernel
theorem dX7_strike_65 : decode cX7_strike 65 = .ok (.getfield 59, 3) := by decide +kernel
theorem dX7_strike_68 : decode cX7_strike 68 = .ok (.iload_n 3, 1) := by decide +kernel
theorem dX7_strike_69 : decode cX7_strike 69 = .ok (.aload_n 0, 1) := by decide +kernel
theorem dX7_strike_70 : decode cX7_strike 70 = .ok (.getfield 59, 3) := by decide +kernel
theorem dX7_strike_73 : decode cX7_strike 73 = .ok (.iload_n 1, 1) := by decide +kernel
theorem dX7_strike_74 : decode cX7_strike 74 = .ok (.iaload, 1) := by decide +kernel
theorem dX7_strike_75 : decode cX7_strike 75 = .ok (.iastore, 1) := by decide +kernel
theorem dX7_strike_76 : decode cX7_strike 76 = .ok (.iinc 2 1, 3) := by decide +kernel
theorem dX7_strike_79 : decode cX7_strike 79 = .ok (.iinc 3 1, 3) := by decide +kernel
theorem dX7_strike_82 : decode cX7_strike 82 = .ok (.goto (-36), 3) := by decide +kernel
theorem dX7_strike_85 : decode cX7_strike 85 = .ok (.iload_n 2, 1) := by decide +kernel
theorem dX7_strike_86 : decode cX7_strike 86 = .ok (.ireturn, 1) := by decide +kernel
theorem dX7_giveBack_0 : decode cX7_giveBack 0 = .ok (.aload_n 0, 1) := by decide +kernel
theorem dX7_giveBack_1 : decode cX7_giveBack 1 = .ok (.aload_n 0, 1) := by decide +kernel
theorem dX7_giveBack_2 : decode cX7_giveBack 2 = .ok (.iload_n 1, 1) := by decide +kernel
theorem dX7_giveBack_3 : decode cX7_giveBack 3 = .ok (.invokevirtual 131, 3) := by decide +kernel
theorem dX7_giveBack_6 : decode cX7_giveBack 6 = .ok (.ifCond .eq 7, 3) := by decide +kernel
theorem dX7_giveBack_9 : decode cX7_giveBack 9 = .ok (.iconst 1, 1) := by decide +kernel
theorem dX7_giveBack_10 : decode cX7_giveBack 10 = .ok (.goto 17, 3) := by decide +kernel
theorem dX7_giveBack_13 : decode cX7_giveBack 13 = .ok (.aload_n 0, 1) := by decide +kernel
theorem dX7_giveBack_14 : decode cX7_giveBack 14 = .ok (.getfield 62, 3) := by decide +kernel
theorem dX7_giveBack_17 : decode cX7_giveBack 17 = .ok (.iload_n 1, 1) := by decide +kernel
theorem dX7_giveBack_18 : decode cX7_giveBack 18 = .ok (.baload, 1) := by decide +kernel
theorem dX7_giveBack_19 : decode cX7_giveBack 19 = .ok (.ifCond .ne 7, 3) := by decide +kernel
theorem dX7_giveBack_22 : decode cX7_giveBack 22 = .ok (.iconst 2, 1) := by decide +kernel
theorem dX7_giveBack_23 : decode cX7_giveBack 23 = .ok (.goto 4, 3) := by decide +kernel
theorem dX7_giveBack_26 : decode cX7_giveBack 26 = .ok (.iconst 0, 1) := by decide +kernel
theorem dX7_giveBack_27 : decode cX7_giveBack 27 = .ok (.invokevirtual 89, 3) := by decide +kernel
theorem dX7_giveBack_30 : decode cX7_giveBack 30 = .ok (.ifCond .eq 5, 3) := by decide +kernel
theorem dX7_giveBack_33 : decode cX7_giveBack 33 = .ok (.iconst 0, 1) := by decide +kernel
theorem dX7_giveBack_34 : decode cX7_giveBack 34 = .ok (.ireturn, 1) := by decide +kernel
theorem dX7_giveBack_35 : decode cX7_giveBack 35 = .ok (.aload_n 0, 1) := by decide +kernel
theorem dX7_giveBack_36 : decode cX7_giveBack 36 = .ok (.getfield 62, 3) := by decide +kernel
theorem dX7_giveBack_39 : decode cX7_giveBack 39 = .ok (.iload_n 1, 1) := by decide +kernel
theorem dX7_giveBack_40 : decode cX7_giveBack 40 = .ok (.iconst 0, 1) := by decide +kernel
theorem dX7_giveBack_41 : decode cX7_giveBack 41 = .ok (.bastore, 1) := by decide +kernel
theorem dX7_giveBack_42 : decode cX7_giveBack 42 = .ok (.iconst 0, 1) := by decide +kernel
theorem dX7_giveBack_43 : decode cX7_giveBack 43 = .ok (.istore_n 2, 1) := by decide +kernel
theorem dX7_giveBack_44 : decode cX7_giveBack 44 = .ok (.iconst 0, 1) := by decide +kernel
theorem dX7_giveBack_45 : decode cX7_giveBack 45 = .ok (.istore_n 3, 1) := by decide +kernel
theorem dX7_giveBack_46 : decode cX7_giveBack 46 = .ok (.iload_n 3, 1) := by decide +kernel
theorem dX7_giveBack_47 : decode cX7_giveBack 47 = .ok (.aload_n 0, 1) := by decide +kernel
theorem dX7_giveBack_48 : decode cX7_giveBack 48 = .ok (.getfield 86, 3) := by decide +kernel
theorem dX7_giveBack_51 : decode cX7_giveBack 51 = .ok (.if_icmp .ge 26, 3) := by decide +kernel
theorem dX7_giveBack_54 : decode cX7_giveBack 54 = .ok (.iload_n 2, 1) := by decide +kernel
theorem dX7_giveBack_55 : decode cX7_giveBack 55 = .ok (.aload_n 0, 1) := by decide +kernel
theorem dX7_giveBack_56 : decode cX7_giveBack 56 = .ok (.getfield 62, 3) := by decide +kernel
theorem dX7_giveBack_59 : decode cX7_giveBack 59 = .ok (.iload_n 3, 1) := by decide +kernel
theorem dX7_giveBack_60 : decode cX7_giveBack 60 = .ok (.baload, 1) := by decide +kernel
theorem dX7_giveBack_61 : decode cX7_giveBack 61 = .ok (.ifCond .eq 7, 3) := by decide +kernel
theorem dX7_giveBack_64 : decode cX7_giveBack 64 = .ok (.iconst 0, 1) := by decide +kernel
theorem dX7_giveBack_65 : decode cX7_giveBack 65 = .ok (.goto 4, 3) := by decide +kernel
theorem dX7_giveBack_68 : decode cX7_giveBack 68 = .ok (.iconst 1, 1) := by decide +kernel
theorem dX7_giveBack_69 : decode cX7_giveBack 69 = .ok (.iadd, 1) := by decide +kernel
theorem dX7_giveBack_70 : decode cX7_giveBack 70 = .ok (.istore_n 2, 1) := by decide +kernel
theorem dX7_giveBack_71 : decode cX7_giveBack 71 = .ok (.iinc 3 1, 3) := by decide +kernel
theorem dX7_giveBack_74 : decode cX7_giveBack 74 = .ok (.goto (-28), 3) := by decide +kernel
theorem dX7_giveBack_77 : decode cX7_giveBack 77 = .ok (.iload_n 2, 1) := by decide +kernel
theorem dX7_giveBack_78 : decode cX7_giveBack 78 = .ok (.ireturn, 1) := by decide +kernel
theorem dX7_stands_0 : decode cX7_stands 0 = .ok (.aload_n 0, 1) := by decide +kernel
theorem dX7_stands_1 : decode cX7_stands 1 = .ok (.aload_n 0, 1) := by decide +kernel
theorem dX7_stands_2 : decode cX7_stands 2 = .ok (.iload_n 1, 1) := by decide +kernel
theorem dX7_stands_3 : decode cX7_stands 3 = .ok (.invokevirtual 131, 3) := by decide +kernel
theorem dX7_stands_6 : decode cX7_stands 6 = .ok (.ifCond .eq 7, 3) := by decide +kernel
theorem dX7_stands_9 : decode cX7_stands 9 = .ok (.iconst 1, 1) := by decide +kernel
theorem dX7_stands_10 : decode cX7_stands 10 = .ok (.goto 4, 3) := by decide +kernel
theorem dX7_stands_13 : decode cX7_stands 13 = .ok (.iconst 0, 1) := by decide +kernel
theorem dX7_stands_14 : decode cX7_stands 14 = .ok (.invokevirtual 89, 3) := by decide +kernel
theorem dX7_stands_17 : decode cX7_stands 17 = .ok (.ifCond .ne 16, 3) := by decide +kernel
theorem dX7_stands_20 : decode cX7_stands 20 = .ok (.aload_n 0, 1) := by decide +kernel
theorem dX7_stands_21 : decode cX7_stands 21 = .ok (.getfield 62, 3) := by decide +kernel
theorem dX7_stands_24 : decode cX7_stands 24 = .ok (.iload_n 1, 1) := by decide +kernel
theorem dX7_stands_25 : decode cX7_stands 25 = .ok (.baload, 1) := by decide +kernel
theorem dX7_stands_26 : decode cX7_stands 26 = .ok (.ifCond .ne 7, 3) := by decide +kernel
theorem dX7_stands_29 : decode cX7_stands 29 = .ok (.iconst 1, 1) := by decide +kernel
theorem dX7_stands_30 : decode cX7_stands 30 = .ok (.goto 4, 3) := by decide +kernel
theorem dX7_stands_33 : decode cX7_stands 33 = .ok (.iconst 0, 1) := by decide +kernel
theorem dX7_stands_34 : decode cX7_stands 34 = .ok (.ireturn, 1) := by decide +kernel
theorem dX7_penalty_0 : decode cX7_penalty 0 = .ok (.aload_n 0, 1) := by decide +kernel
theorem dX7_penalty_1 : decode cX7_penalty 1 = .ok (.aload_n 0, 1) := by decide +kernel
theorem dX7_penalty_2 : decode cX7_penalty 2 = .ok (.iload_n 1, 1) := by decide +kernel
theorem dX7_penalty_3 : decode cX7_penalty 3 = .ok (.invokevirtual 131, 3) := by decide +kernel
theorem dX7_penalty_6 : decode cX7_penalty 6 = .ok (.ifCond .eq 7, 3) := by decide +kernel
theorem dX7_penalty_9 : decode cX7_penalty 9 = .ok (.iconst 1, 1) := by decide +kernel
theorem dX7_penalty_10 : decode cX7_penalty 10 = .ok (.goto 19, 3) := by decide +kernel
theorem dX7_penalty_13 : decode cX7_penalty 13 = .ok (.iload_n 2, 1) := by decide +kernel
theorem dX7_penalty_14 : decode cX7_penalty 14 = .ok (.iconst 0, 1) := by decide +kernel
theorem dX7_penalty_15 : decode cX7_penalty 15 = .ok (.sipush 9999, 3) := by decide +kernel
theorem dX7_penalty_18 : decode cX7_penalty 18 = .ok (.invokestatic 79, 3) := by decide +kernel
theorem dX7_penalty_21 : decode cX7_penalty 21 = .ok (.ifCond .ne 7, 3) := by decide +kernel
theorem dX7_penalty_24 : decode cX7_penalty 24 = .ok (.iconst 2, 1) := by decide +kernel
theorem dX7_penalty_25 : decode cX7_penalty 25 = .ok (.goto 4, 3) := by decide +kernel
theorem dX7_penalty_28 : decode cX7_penalty 28 = .ok (.iconst 0, 1) := by decide +kernel
theorem dX7_penalty_29 : decode cX7_penalty 29 = .ok (.invokevirtual 89, 3) := by decide +kernel
theorem dX7_penalty_32 : decode cX7_penalty 32 = .ok (.ifCond .eq 5, 3) := by decide +kernel
theorem dX7_penalty_35 : decode cX7_penalty 35 = .ok (.iconst 0, 1) := by decide +kernel
theorem dX7_penalty_36 : decode cX7_penalty 36 = .ok (.ireturn, 1) := by decide +kernel
theorem dX7_penalty_37 : decode cX7_penalty 37 = .ok (.aload_n 0, 1) := by decide +kernel
theorem dX7_penalty_38 : decode cX7_penalty 38 = .ok (.getfield 41, 3) := by decide +kernel
theorem dX7_penalty_41 : decode cX7_penalty 41 = .ok (.iload_n 1, 1) := by decide +kernel
theorem dX7_penalty_42 : decode cX7_penalty 42 = .ok (.iaload, 1) := by decide +kernel
theorem dX7_penalty_43 : decode cX7_penalty 43 = .ok (.istore_n 3, 1) := by decide +kernel
theorem dX7_penalty_44 : decode cX7_penalty 44 = .ok (.aload_n 0, 1) := by decide +kernel
theorem dX7_penalty_45 : decode cX7_penalty 45 = .ok (.getfield 41, 3) := by decide +kernel
theorem dX7_penalty_48 : decode cX7_penalty 48 = .ok (.iload_n 1, 1) := by decide +kernel
theorem dX7_penalty_49 : decode cX7_penalty 49 = .ok (.iload_n 2, 1) := by decide +kernel
theorem dX7_penalty_50 : decode cX7_penalty 50 = .ok (.iastore, 1) := by decide +kernel
theorem dX7_penalty_51 : decode cX7_penalty 51 = .ok (.iload_n 3, 1) := by decide +kernel
theorem dX7_penalty_52 : decode cX7_penalty 52 = .ok (.ireturn, 1) := by decide +kernel
theorem dX7_round_0 : decode cX7_round 0 = .ok (.aload_n 0, 1) := by decide +kernel
theorem dX7_round_1 : decode cX7_round 1 = .ok (.aload_n 0, 1) := by decide +kernel
theorem dX7_round_2 : decode cX7_round 2 = .ok (.iload_n 1, 1) := by decide +kernel
theorem dX7_round_3 : decode cX7_round 3 = .ok (.invokevirtual 93, 3) := by decide +kernel
theorem dX7_round_6 : decode cX7_round 6 = .ok (.ifCond .eq 7, 3) := by decide +kernel
theorem dX7_round_9 : decode cX7_round 9 = .ok (.iconst 1, 1) := by decide +kernel
theorem dX7_round_10 : decode cX7_round 10 = .ok (.goto 17, 3) := by decide +kernel
theorem dX7_round_13 : decode cX7_round 13 = .ok (.aload_n 0, 1) := by decide +kernel
theorem dX7_round_14 : decode cX7_round 14 = .ok (.getfield 150, 3) := by decide +kernel
theorem dX7_round_17 : decode cX7_round 17 = .ok (.bipush 10, 2) := by decide +kernel
theorem dX7_round_19 : decode cX7_round 19 = .ok (.if_icmp .ne 7, 3) := by decide +kernel
theorem dX7_round_22 : decode cX7_round 22 = .ok (.iconst 2, 1) := by decide +kernel
theorem dX7_round_23 : decode cX7_round 23 = .ok (.goto 4, 3) := by decide +kernel
theorem dX7_round_26 : decode cX7_round 26 = .ok (.iconst 0, 1) := by decide +kernel
theorem dX7_round_27 : decode cX7_round 27 = .ok (.invokevirtual 89, 3) := by decide +kernel
theorem dX7_round_30 : decode cX7_round 30 = .ok (.ifCond .eq 5, 3) := by decide +kernel
theorem dX7_round_33 : decode cX7_round 33 = .ok (.iconst 0, 1) := by decide +kernel
theorem dX7_round_34 : decode cX7_round 34 = .ok (.ireturn, 1) := by decide +kernel
theorem dX7_round_35 : decode cX7_round 35 = .ok (.aload_n 0, 1) := by decide +kernel
theorem dX7_round_36 : decode cX7_round 36 = .ok (.getfield 66, 3) := by decide +kernel
theorem dX7_round_39 : decode cX7_round 39 = .ok (.aload_n 0, 1) := by decide +kernel
theorem dX7_round_40 : decode cX7_round 40 = .ok (.getfield 150, 3) := by decide +kernel
theorem dX7_round_43 : decode cX7_round 43 = .ok (.iload_n 1, 1) := by decide +kernel
theorem dX7_round_44 : decode cX7_round 44 = .ok (.iastore, 1) := by decide +kernel
theorem dX7_round_45 : decode cX7_round 45 = .ok (.aload_n 0, 1) := by decide +kernel
theorem dX7_round_46 : decode cX7_round 46 = .ok (.dup, 1) := by decide +kernel
theorem dX7_round_47 : decode cX7_round 47 = .ok (.getfield 150, 3) := by decide +kernel
theorem dX7_round_50 : decode cX7_round 50 = .ok (.iconst 1, 1) := by decide +kernel
theorem dX7_round_51 : decode cX7_round 51 = .ok (.iadd, 1) := by decide +kernel
theorem dX7_round_52 : decode cX7_round 52 = .ok (.putfield 150, 3) := by decide +kernel
theorem dX7_round_55 : decode cX7_round 55 = .ok (.aload_n 0, 1) := by decide +kernel
theorem dX7_round_56 : decode cX7_round 56 = .ok (.iconst 1, 1) := by decide +kernel
theorem dX7_round_57 : decode cX7_round 57 = .ok (.putfield 147, 3) := by decide +kernel
theorem dX7_round_60 : decode cX7_round 60 = .ok (.aload_n 0, 1) := by decide +kernel
theorem dX7_round_61 : decode cX7_round 61 = .ok (.getfield 150, 3) := by decide +kernel
theorem dX7_round_64 : decode cX7_round 64 = .ok (.iconst 1, 1) := by decide +kernel
theorem dX7_round_65 : decode cX7_round 65 = .ok (.isub, 1) := by decide +kernel
theorem dX7_round_66 : decode cX7_round 66 = .ok (.ireturn, 1) := by decide +kernel
theorem dX7_shut_0 : decode cX7_shut 0 = .ok (.aload_n 0, 1) := by decide +kernel
theorem dX7_shut_1 : decode cX7_shut 1 = .ok (.aload_n 0, 1) := by decide +kernel
theorem dX7_shut_2 : decode cX7_shut 2 = .ok (.getfield 147, 3) := by decide +kernel
theorem dX7_shut_5 : decode cX7_shut 5 = .ok (.ifCond .eq 7, 3) := by decide +kernel
theorem dX7_shut_8 : decode cX7_shut 8 = .ok (.iconst 0, 1) := by decide +kernel
theorem dX7_shut_9 : decode cX7_shut 9 = .ok (.goto 4, 3) := by decide +kernel
theorem dX7_shut_12 : decode cX7_shut 12 = .ok (.iconst 1, 1) := by decide +kernel
theorem dX7_shut_13 : decode cX7_shut 13 = .ok (.invokevirtual 89, 3) := by decide +kernel
theorem dX7_shut_16 : decode cX7_shut 16 = .ok (.ifCond .eq 5, 3) := by decide +kernel
theorem dX7_shut_19 : decode cX7_shut 19 = .ok (.iconst 0, 1) := by decide +kernel
theorem dX7_shut_20 : decode cX7_shut 20 = .ok (.ireturn, 1) := by decide +kernel
theorem dX7_shut_21 : decode cX7_shut 21 = .ok (.aload_n 0, 1) := by decide +kernel
theorem dX7_shut_22 : decode cX7_shut 22 = .ok (.iconst 0, 1) := by decide +kernel
theorem dX7_shut_23 : decode cX7_shut 23 = .ok (.putfield 147, 3) := by decide +kernel
theorem dX7_shut_26 : decode cX7_shut 26 = .ok (.aload_n 0, 1) := by decide +kernel
theorem dX7_shut_27 : decode cX7_shut 27 = .ok (.getfield 150, 3) := by decide +kernel
theorem dX7_shut_30 : decode cX7_shut 30 = .ok (.iconst 1, 1) := by decide +kernel
theorem dX7_shut_31 : decode cX7_shut 31 = .ok (.isub, 1) := by decide +kernel
theorem dX7_shut_32 : decode cX7_shut 32 = .ok (.ireturn, 1) := by decide +kernel
theorem dX7_lapNow_0 : decode cX7_lapNow 0 = .ok (.iconst (-1), 1) := by decide +kernel
theorem dX7_lapNow_1 : decode cX7_lapNow 1 = .ok (.istore_n 3, 1) := by decide +kernel
theorem dX7_lapNow_2 : decode cX7_lapNow 2 = .ok (.iconst 0, 1) := by decide +kernel
theorem dX7_lapNow_3 : decode cX7_lapNow 3 = .ok (.istore 4, 2) := by decide +kernel
theorem dX7_lapNow_5 : decode cX7_lapNow 5 = .ok (.iload 4, 2) := by decide +kernel
theorem dX7_lapNow_7 : decode cX7_lapNow 7 = .ok (.aload_n 0, 1) := by decide +kernel
theorem dX7_lapNow_8 : decode cX7_lapNow 8 = .ok (.getfield 86, 3) := by decide +kernel
theorem dX7_lapNow_11 : decode cX7_lapNow 11 = .ok (.if_icmp .ge 79, 3) := by decide +kernel
theorem dX7_lapNow_14 : decode cX7_lapNow 14 = .ok (.aload_n 0, 1) := by decide +kernel
theorem dX7_lapNow_15 : decode cX7_lapNow 15 = .ok (.getfield 56, 3) := by decide +kernel
theorem dX7_lapNow_18 : decode cX7_lapNow 18 = .ok (.iload 4, 2) := by decide +kernel
theorem dX7_lapNow_20 : decode cX7_lapNow 20 = .ok (.iaload, 1) := by decide +kernel
theorem dX7_lapNow_21 : decode cX7_lapNow 21 = .ok (.iload_n 1, 1) := by decide +kernel
theorem dX7_lapNow_22 : decode cX7_lapNow 22 = .ok (.if_icmp .ne 28, 3) := by decide +kernel
theorem dX7_lapNow_25 : decode cX7_lapNow 25 = .ok (.aload_n 0, 1) := by decide +kernel
theorem dX7_lapNow_26 : decode cX7_lapNow 26 = .ok (.getfield 44, 3) := by decide +kernel
theorem dX7_lapNow_29 : decode cX7_lapNow 29 = .ok (.iload 4, 2) := by decide +kernel
theorem dX7_lapNow_31 : decode cX7_lapNow 31 = .ok (.iaload, 1) := by decide +kernel
theorem dX7_lapNow_32 : decode cX7_lapNow 32 = .ok (.iload_n 2, 1) := by decide +kernel
theorem dX7_lapNow_33 : decode cX7_lapNow 33 = .ok (.if_icmp .ne 17, 3) := by decide +kernel
theorem dX7_lapNow_36 : decode cX7_lapNow 36 = .ok (.aload_n 0, 1) := by decide +kernel
theorem dX7_lapNow_37 : decode cX7_lapNow 37 = .ok (.getfield 62, 3) := by decide +kernel
theorem dX7_lapNow_40 : decode cX7_lapNow 40 = .ok (.iload 4, 2) := by decide +kernel
theorem dX7_lapNow_42 : decode cX7_lapNow 42 = .ok (.baload, 1) := by decide +kernel
theorem dX7_lapNow_43 : decode cX7_lapNow 43 = .ok (.ifCond .ne 7, 3) := by decide +kernel
theorem dX7_lapNow_46 : decode cX7_lapNow 46 = .ok (.iconst 1, 1) := by decide +kernel
theorem dX7_lapNow_47 : decode cX7_lapNow 47 = .ok (.goto 4, 3) := by decide +kernel
theorem dX7_lapNow_50 : decode cX7_lapNow 50 = .ok (.iconst 0, 1) := by decide +kernel
theorem dX7_lapNow_51 : decode cX7_lapNow 51 = .ok (.istore 5, 2) := by decide +kernel
theorem dX7_lapNow_53 : decode cX7_lapNow 53 = .ok (.iload 5, 2) := by decide +kernel
theorem dX7_lapNow_55 : decode cX7_lapNow 55 = .ok (.ifCond .eq 27, 3) := by decide +kernel
theorem dX7_lapNow_58 : decode cX7_lapNow 58 = .ok (.iload_n 3, 1) := by decide +kernel
theorem dX7_lapNow_59 : decode cX7_lapNow 59 = .ok (.iconst (-1), 1) := by decide +kernel
theorem dX7_lapNow_60 : decode cX7_lapNow 60 = .ok (.if_icmp .eq 17, 3) := by decide +kernel
theorem dX7_lapNow_63 : decode cX7_lapNow 63 = .ok (.aload_n 0, 1) := by decide +kernel
theorem dX7_lapNow_64 : decode cX7_lapNow 64 = .ok (.iload 4, 2) := by decide +kernel
theorem dX7_lapNow_66 : decode cX7_lapNow 66 = .ok (.invokevirtual 156, 3) := by decide +kernel
theorem dX7_lapNow_69 : decode cX7_lapNow 69 = .ok (.aload_n 0, 1) := by decide +kernel
theorem dX7_lapNow_70 : decode cX7_lapNow 70 = .ok (.iload_n 3, 1) := by decide +kernel
theorem dX7_lapNow_71 : decode cX7_lapNow 71 = .ok (.invokevirtual 156, 3) := by decide +kernel
theorem dX7_lapNow_74 : decode cX7_lapNow 74 = .ok (.if_icmp .ge 8, 3) := by decide +kernel
theorem dX7_lapNow_77 : decode cX7_lapNow 77 = .ok (.iload 4, 2) := by decide +kernel
theorem dX7_lapNow_79 : decode cX7_lapNow 79 = .ok (.goto 4, 3) := by decide +kernel
theorem dX7_lapNow_82 : decode cX7_lapNow 82 = .ok (.iload_n 3, 1) := by decide +kernel
theorem dX7_lapNow_83 : decode cX7_lapNow 83 = .ok (.istore_n 3, 1) := by decide +kernel
theorem dX7_lapNow_84 : decode cX7_lapNow 84 = .ok (.iinc 4 1, 3) := by decide +kernel
theorem dX7_lapNow_87 : decode cX7_lapNow 87 = .ok (.goto (-82), 3) := by decide +kernel
theorem dX7_lapNow_90 : decode cX7_lapNow 90 = .ok (.iload_n 3, 1) := by decide +kernel
theorem dX7_lapNow_91 : decode cX7_lapNow 91 = .ok (.ireturn, 1) := by decide +kernel
theorem dX7_isNoSeat_0 : decode cX7_isNoSeat 0 = .ok (.iload_n 1, 1) := by decide +kernel
theorem dX7_isNoSeat_1 : decode cX7_isNoSeat 1 = .ok (.iconst 0, 1) := by decide +kernel
theorem dX7_isNoSeat_2 : decode cX7_isNoSeat 2 = .ok (.aload_n 0, 1) := by decide +kernel
theorem dX7_isNoSeat_3 : decode cX7_isNoSeat 3 = .ok (.getfield 150, 3) := by decide +kernel
theorem dX7_isNoSeat_6 : decode cX7_isNoSeat 6 = .ok (.iconst 1, 1) := by decide +kernel
theorem dX7_isNoSeat_7 : decode cX7_isNoSeat 7 = .ok (.isub, 1) := by decide +kernel
theorem dX7_isNoSeat_8 : decode cX7_isNoSeat 8 = .ok (.invokestatic 79, 3) := by decide +kernel
theorem dX7_isNoSeat_11 : decode cX7_isNoSeat 11 = .ok (.ifCond .eq 12, 3) := by decide +kernel
theorem dX7_isNoSeat_14 : decode cX7_isNoSeat 14 = .ok (.iload_n 2, 1) := by decide +kernel
theorem dX7_isNoSeat_15 : decode cX7_isNoSeat 15 = .ok (.iconst 0, 1) := by decide +kernel
theorem dX7_isNoSeat_16 : decode cX7_isNoSeat 16 = .ok (.iconst 5, 1) := by decide +kernel
theorem dX7_isNoSeat_17 : decode cX7_isNoSeat 17 = .ok (.invokestatic 79, 3) := by decide +kernel
theorem dX7_isNoSeat_20 : decode cX7_isNoSeat 20 = .ok (.ifCond .ne 7, 3) := by decide +kernel
theorem dX7_isNoSeat_23 : decode cX7_isNoSeat 23 = .ok (.iconst 1, 1) := by decide +kernel
theorem dX7_isNoSeat_24 : decode cX7_isNoSeat 24 = .ok (.goto 4, 3) := by decide +kernel
theorem dX7_isNoSeat_27 : decode cX7_isNoSeat 27 = .ok (.iconst 0, 1) := by decide +kernel
theorem dX7_isNoSeat_28 : decode cX7_isNoSeat 28 = .ok (.ireturn, 1) := by decide +kernel
theorem dX7_lapIn_0 : decode cX7_lapIn 0 = .ok (.aload_n 0, 1) := by decide +kernel
theorem dX7_lapIn_1 : decode cX7_lapIn 1 = .ok (.iload_n 1, 1) := by decide +kernel
theorem dX7_lapIn_2 : decode cX7_lapIn 2 = .ok (.iload_n 2, 1) := by decide +kernel
theorem dX7_lapIn_3 : decode cX7_lapIn 3 = .ok (.invokevirtual 169, 3) := by decide +kernel
theorem dX7_lapIn_6 : decode cX7_lapIn 6 = .ok (.istore_n 3, 1) := by decide +kernel
theorem dX7_lapIn_7 : decode cX7_lapIn 7 = .ok (.aload_n 0, 1) := by decide +kernel
theorem dX7_lapIn_8 : decode cX7_lapIn 8 = .ok (.aload_n 0, 1) := by decide +kernel
theorem dX7_lapIn_9 : decode cX7_lapIn 9 = .ok (.iload_n 1, 1) := by decide +kernel
theorem dX7_lapIn_10 : decode cX7_lapIn 10 = .ok (.iload_n 2, 1) := by decide +kernel
theorem dX7_lapIn_11 : decode cX7_lapIn 11 = .ok (.invokevirtual 172, 3) := by decide +kernel
theorem dX7_lapIn_14 : decode cX7_lapIn 14 = .ok (.ifCond .eq 7, 3) := by decide +kernel
theorem dX7_lapIn_17 : decode cX7_lapIn 17 = .ok (.iconst 1, 1) := by decide +kernel
theorem dX7_lapIn_18 : decode cX7_lapIn 18 = .ok (.goto 13, 3) := by decide +kernel
theorem dX7_lapIn_21 : decode cX7_lapIn 21 = .ok (.iload_n 3, 1) := by decide +kernel
theorem dX7_lapIn_22 : decode cX7_lapIn 22 = .ok (.iconst (-1), 1) := by decide +kernel
theorem dX7_lapIn_23 : decode cX7_lapIn 23 = .ok (.if_icmp .ne 7, 3) := by decide +kernel
theorem dX7_lapIn_26 : decode cX7_lapIn 26 = .ok (.iconst 2, 1) := by decide +kernel
theorem dX7_lapIn_27 : decode cX7_lapIn 27 = .ok (.goto 4, 3) := by decide +kernel
theorem dX7_lapIn_30 : decode cX7_lapIn 30 = .ok (.iconst 0, 1) := by decide +kernel
theorem dX7_lapIn_31 : decode cX7_lapIn 31 = .ok (.invokevirtual 89, 3) := by decide +kernel
theorem dX7_lapIn_34 : decode cX7_lapIn 34 = .ok (.ifCond .eq 7, 3) := by decide +kernel
theorem dX7_lapIn_37 : decode cX7_lapIn 37 = .ok (.iconst 0, 1) := by decide +kernel
theorem dX7_lapIn_38 : decode cX7_lapIn 38 = .ok (.goto 4, 3) := by decide +kernel
theorem dX7_lapIn_41 : decode cX7_lapIn 41 = .ok (.iload_n 3, 1) := by decide +kernel
theorem dX7_lapIn_42 : decode cX7_lapIn 42 = .ok (.ireturn, 1) := by decide +kernel
theorem dX7_placeNow_0 : decode cX7_placeNow 0 = .ok (.aload_n 0, 1) := by decide +kernel
theorem dX7_placeNow_1 : decode cX7_placeNow 1 = .ok (.iload_n 1, 1) := by decide +kernel
theorem dX7_placeNow_2 : decode cX7_placeNow 2 = .ok (.iload_n 2, 1) := by decide +kernel
theorem dX7_placeNow_3 : decode cX7_placeNow 3 = .ok (.invokevirtual 169, 3) := by decide +kernel
theorem dX7_placeNow_6 : decode cX7_placeNow 6 = .ok (.istore_n 3, 1) := by decide +kernel
theorem dX7_placeNow_7 : decode cX7_placeNow 7 = .ok (.iload_n 3, 1) := by decide +kernel
theorem dX7_placeNow_8 : decode cX7_placeNow 8 = .ok (.iconst (-1), 1) := by decide +kernel
theorem dX7_placeNow_9 : decode cX7_placeNow 9 = .ok (.if_icmp .ne 5, 3) := by decide +kernel
theorem dX7_placeNow_12 : decode cX7_placeNow 12 = .ok (.iconst 0, 1) := by decide +kernel
theorem dX7_placeNow_13 : decode cX7_placeNow 13 = .ok (.ireturn, 1) := by decide +kernel
theorem dX7_placeNow_14 : decode cX7_placeNow 14 = .ok (.iconst 1, 1) := by decide +kernel
theorem dX7_placeNow_15 : decode cX7_placeNow 15 = .ok (.istore 4, 2) := by decide +kernel
theorem dX7_placeNow_17 : decode cX7_placeNow 17 = .ok (.iconst 0, 1) := by decide +kernel
theorem dX7_placeNow_18 : decode cX7_placeNow 18 = .ok (.istore 5, 2) := by decide +kernel
theorem dX7_placeNow_20 : decode cX7_placeNow 20 = .ok (.iload 5, 2) := by decide +kernel
theorem dX7_placeNow_22 : decode cX7_placeNow 22 = .ok (.bipush 6, 2) := by decide +kernel
theorem dX7_placeNow_24 : decode cX7_placeNow 24 = .ok (.if_icmp .ge 78, 3) := by decide +kernel
theorem dX7_placeNow_27 : decode cX7_placeNow 27 = .ok (.iload 5, 2) := by decide +kernel
theorem dX7_placeNow_29 : decode cX7_placeNow 29 = .ok (.iload_n 2, 1) := by decide +kernel
theorem dX7_placeNow_30 : decode cX7_placeNow 30 = .ok (.if_icmp .ne 7, 3) := by decide +kernel
theorem dX7_placeNow_33 : decode cX7_placeNow 33 = .ok (.iconst (-1), 1) := by decide +kernel
theorem dX7_placeNow_34 : decode cX7_placeNow 34 = .ok (.goto 10, 3) := by decide +kernel
theorem dX7_placeNow_37 : decode cX7_placeNow 37 = .ok (.aload_n 0, 1) := by decide +kernel
theorem dX7_placeNow_38 : decode cX7_placeNow 38 = .ok (.iload_n 1, 1) := by decide +kernel
theorem dX7_placeNow_39 : decode cX7_placeNow 39 = .ok (.iload 5, 2) := by decide +kernel
theorem dX7_placeNow_41 : decode cX7_placeNow 41 = .ok (.invokevirtual 169, 3) := by decide +kernel
theorem dX7_placeNow_44 : decode cX7_placeNow 44 = .ok (.istore 6, 2) := by decide +kernel
theorem dX7_placeNow_46 : decode cX7_placeNow 46 = .ok (.iload 6, 2) := by decide +kernel
theorem dX7_placeNow_48 : decode cX7_placeNow 48 = .ok (.iconst (-1), 1) := by decide +kernel
theorem dX7_placeNow_49 : decode cX7_placeNow 49 = .ok (.if_icmp .eq 47, 3) := by decide +kernel
theorem dX7_placeNow_52 : decode cX7_placeNow 52 = .ok (.iload 4, 2) := by decide +kernel
theorem dX7_placeNow_54 : decode cX7_placeNow 54 = .ok (.aload_n 0, 1) := by decide +kernel
theorem dX7_placeNow_55 : decode cX7_placeNow 55 = .ok (.iload 6, 2) := by decide +kernel
theorem dX7_placeNow_57 : decode cX7_placeNow 57 = .ok (.invokevirtual 156, 3) := by decide +kernel
theorem dX7_placeNow_60 : decode cX7_placeNow 60 = .ok (.aload_n 0, 1) := by decide +kernel
theorem dX7_placeNow_61 : decode cX7_placeNow 61 = .ok (.iload_n 3, 1) := by decide +kernel
theorem dX7_placeNow_62 : decode cX7_placeNow 62 = .ok (.invokevirtual 156, 3) := by decide +kernel
theorem dX7_placeNow_65 : decode cX7_placeNow 65 = .ok (.if_icmp .lt 23, 3) := by decide +kernel
theorem dX7_placeNow_68 : decode cX7_placeNow 68 = .ok (.aload_n 0, 1) := by decide +kernel
theorem dX7_placeNow_69 : decode cX7_placeNow 69 = .ok (.iload 6, 2) := by decide +kernel
theorem dX7_placeNow_71 : decode cX7_placeNow 71 = .ok (.invokevirtual 156, 3) := by decide +kernel
theorem dX7_placeNow_74 : decode cX7_placeNow 74 = .ok (.aload_n 0, 1) := by decide +kernel
theorem dX7_placeNow_75 : decode cX7_placeNow 75 = .ok (.iload_n 3, 1) := by decide +kernel
theorem dX7_placeNow_76 : decode cX7_placeNow 76 = .ok (.invokevirtual 156, 3) := by decide +kernel
theorem dX7_placeNow_79 : decode cX7_placeNow 79 = .ok (.if_icmp .ne 13, 3) := by decide +kernel
theorem dX7_placeNow_82 : decode cX7_placeNow 82 = .ok (.iload 6, 2) := by decide +kernel
theorem dX7_placeNow_84 : decode cX7_placeNow 84 = .ok (.iload_n 3, 1) := by decide +kernel
theorem dX7_placeNow_85 : decode cX7_placeNow 85 = .ok (.if_icmp .ge 7, 3) := by decide +kernel
theorem dX7_placeNow_88 : decode cX7_placeNow 88 = .ok (.iconst 1, 1) := by decide +kernel
theorem dX7_placeNow_89 : decode cX7_placeNow 89 = .ok (.goto 4, 3) := by decide +kernel
theorem dX7_placeNow_92 : decode cX7_placeNow 92 = .ok (.iconst 0, 1) := by decide +kernel
theorem dX7_placeNow_93 : decode cX7_placeNow 93 = .ok (.iadd, 1) := by decide +kernel
theorem dX7_placeNow_94 : decode cX7_placeNow 94 = .ok (.istore 4, 2) := by decide +kernel
theorem dX7_placeNow_96 : decode cX7_placeNow 96 = .ok (.iinc 5 1, 3) := by decide +kernel
theorem dX7_placeNow_99 : decode cX7_placeNow 99 = .ok (.goto (-79), 3) := by decide +kernel
theorem dX7_placeNow_102 : decode cX7_placeNow 102 = .ok (.iload 4, 2) := by decide +kernel
theorem dX7_placeNow_104 : decode cX7_placeNow 104 = .ok (.ireturn, 1) := by decide +kernel
theorem dX7_placeIn_0 : decode cX7_placeIn 0 = .ok (.aload_n 0, 1) := by decide +kernel
theorem dX7_placeIn_1 : decode cX7_placeIn 1 = .ok (.iload_n 1, 1) := by decide +kernel
theorem dX7_placeIn_2 : decode cX7_placeIn 2 = .ok (.iload_n 2, 1) := by decide +kernel
theorem dX7_placeIn_3 : decode cX7_placeIn 3 = .ok (.invokevirtual 172, 3) := by decide +kernel
theorem dX7_placeIn_6 : decode cX7_placeIn 6 = .ok (.ifCond .eq 7, 3) := by decide +kernel
theorem dX7_placeIn_9 : decode cX7_placeIn 9 = .ok (.iconst 0, 1) := by decide +kernel
theorem dX7_placeIn_10 : decode cX7_placeIn 10 = .ok (.goto 9, 3) := by decide +kernel
theorem dX7_placeIn_13 : decode cX7_placeIn 13 = .ok (.aload_n 0, 1) := by decide +kernel
theorem dX7_placeIn_14 : decode cX7_placeIn 14 = .ok (.iload_n 1, 1) := by decide +kernel
theorem dX7_placeIn_15 : decode cX7_placeIn 15 = .ok (.iload_n 2, 1) := by decide +kernel
theorem dX7_placeIn_16 : decode cX7_placeIn 16 = .ok (.invokevirtual 175, 3) := by decide +kernel
theorem dX7_placeIn_19 : decode cX7_placeIn 19 = .ok (.istore_n 3, 1) := by decide +kernel
theorem dX7_placeIn_20 : decode cX7_placeIn 20 = .ok (.aload_n 0, 1) := by decide +kernel
theorem dX7_placeIn_21 : decode cX7_placeIn 21 = .ok (.aload_n 0, 1) := by decide +kernel
theorem dX7_placeIn_22 : decode cX7_placeIn 22 = .ok (.iload_n 1, 1) := by decide +kernel
theorem dX7_placeIn_23 : decode cX7_placeIn 23 = .ok (.iload_n 2, 1) := by decide +kernel
theorem dX7_placeIn_24 : decode cX7_placeIn 24 = .ok (.invokevirtual 172, 3) := by decide +kernel
theorem dX7_placeIn_27 : decode cX7_placeIn 27 = .ok (.ifCond .eq 7, 3) := by decide +kernel
theorem dX7_placeIn_30 : decode cX7_placeIn 30 = .ok (.iconst 1, 1) := by decide +kernel
theorem dX7_placeIn_31 : decode cX7_placeIn 31 = .ok (.goto 12, 3) := by decide +kernel
theorem dX7_placeIn_34 : decode cX7_placeIn 34 = .ok (.iload_n 3, 1) := by decide +kernel
theorem dX7_placeIn_35 : decode cX7_placeIn 35 = .ok (.ifCond .ne 7, 3) := by decide +kernel
theorem dX7_placeIn_38 : decode cX7_placeIn 38 = .ok (.iconst 2, 1) := by decide +kernel
theorem dX7_placeIn_39 : decode cX7_placeIn 39 = .ok (.goto 4, 3) := by decide +kernel
theorem dX7_placeIn_42 : decode cX7_placeIn 42 = .ok (.iconst 0, 1) := by decide +kernel
theorem dX7_placeIn_43 : decode cX7_placeIn 43 = .ok (.invokevirtual 89, 3) := by decide +kernel
theorem dX7_placeIn_46 : decode cX7_placeIn 46 = .ok (.ifCond .eq 7, 3) := by decide +kernel
theorem dX7_placeIn_49 : decode cX7_placeIn 49 = .ok (.iconst 0, 1) := by decide +kernel
theorem dX7_placeIn_50 : decode cX7_placeIn 50 = .ok (.goto 4, 3) := by decide +kernel
theorem dX7_placeIn_53 : decode cX7_placeIn 53 = .ok (.iload_n 3, 1) := by decide +kernel
theorem dX7_placeIn_54 : decode cX7_placeIn 54 = .ok (.ireturn, 1) := by decide +kernel
theorem dX7_drop_0 : decode cX7_drop 0 = .ok (.aload_n 0, 1) := by decide +kernel
theorem dX7_drop_1 : decode cX7_drop 1 = .ok (.iload_n 1, 1) := by decide +kernel
theorem dX7_drop_2 : decode cX7_drop 2 = .ok (.iconst 0, 1) := by decide +kernel
theorem dX7_drop_3 : decode cX7_drop 3 = .ok (.iconst 3, 1) := by decide +kernel
theorem dX7_drop_4 : decode cX7_drop 4 = .ok (.invokestatic 79, 3) := by decide +kernel
theorem dX7_drop_7 : decode cX7_drop 7 = .ok (.ifCond .eq 7, 3) := by decide +kernel
theorem dX7_drop_10 : decode cX7_drop 10 = .ok (.iconst 0, 1) := by decide +kernel
theorem dX7_drop_11 : decode cX7_drop 11 = .ok (.goto 4, 3) := by decide +kernel
theorem dX7_drop_14 : decode cX7_drop 14 = .ok (.iconst 1, 1) := by decide +kernel
theorem dX7_drop_15 : decode cX7_drop 15 = .ok (.invokevirtual 89, 3) := by decide +kernel
theorem dX7_drop_18 : decode cX7_drop 18 = .ok (.ifCond .eq 5, 3) := by decide +kernel
theorem dX7_drop_21 : decode cX7_drop 21 = .ok (.iconst 0, 1) := by decide +kernel
theorem dX7_drop_22 : decode cX7_drop 22 = .ok (.ireturn, 1) := by decide +kernel
theorem dX7_drop_23 : decode cX7_drop 23 = .ok (.aload_n 0, 1) := by decide +kernel
theorem dX7_drop_24 : decode cX7_drop 24 = .ok (.getfield 178, 3) := by decide +kernel
theorem dX7_drop_27 : decode cX7_drop 27 = .ok (.istore_n 2, 1) := by decide +kernel
theorem dX7_drop_28 : decode cX7_drop 28 = .ok (.aload_n 0, 1) := by decide +kernel
theorem dX7_drop_29 : decode cX7_drop 29 = .ok (.iload_n 1, 1) := by decide +kernel
theorem dX7_drop_30 : decode cX7_drop 30 = .ok (.putfield 178, 3) := by decide +kernel
theorem dX7_drop_33 : decode cX7_drop 33 = .ok (.iload_n 2, 1) := by decide +kernel
theorem dX7_drop_34 : decode cX7_drop 34 = .ok (.ireturn, 1) := by decide +kernel
theorem dX7_worth_0 : decode cX7_worth 0 = .ok (.iload_n 0, 1) := by decide +kernel
theorem dX7_worth_1 : decode cX7_worth 1 = .ok (.ifCond .ne 7, 3) := by decide +kernel
theorem dX7_worth_4 : decode cX7_worth 4 = .ok (.iconst 0, 1) := by decide +kernel
theorem dX7_worth_5 : decode cX7_worth 5 = .ok (.goto 27, 3) := by decide +kernel
theorem dX7_worth_8 : decode cX7_worth 8 = .ok (.iload_n 0, 1) := by decide +kernel
theorem dX7_worth_9 : decode cX7_worth 9 = .ok (.iconst 1, 1) := by decide +kernel
theorem dX7_worth_10 : decode cX7_worth 10 = .ok (.if_icmp .ne 8, 3) := by decide +kernel
theorem dX7_worth_13 : decode cX7_worth 13 = .ok (.bipush 10, 2) := by decide +kernel
theorem dX7_worth_15 : decode cX7_worth 15 = .ok (.goto 17, 3) := by decide +kernel
theorem dX7_worth_18 : decode cX7_worth 18 = .ok (.iload_n 0, 1) := by decide +kernel
theorem dX7_worth_19 : decode cX7_worth 19 = .ok (.iconst 2, 1) := by decide +kernel
theorem dX7_worth_20 : decode cX7_worth 20 = .ok (.if_icmp .ne 8, 3) := by decide +kernel
theorem dX7_worth_23 : decode cX7_worth 23 = .ok (.bipush 8, 2) := by decide +kernel
theorem dX7_worth_25 : decode cX7_worth 25 = .ok (.goto 7, 3) := by decide +kernel
theorem dX7_worth_28 : decode cX7_worth 28 = .ok (.bipush 9, 2) := by decide +kernel
theorem dX7_worth_30 : decode cX7_worth 30 = .ok (.iload_n 0, 1) := by decide +kernel
theorem dX7_worth_31 : decode cX7_worth 31 = .ok (.isub, 1) := by decide +kernel
theorem dX7_worth_32 : decode cX7_worth 32 = .ok (.ireturn, 1) := by decide +kernel
theorem dX7_pointsOf_0 : decode cX7_pointsOf 0 = .ok (.iconst 0, 1) := by decide +kernel
theorem dX7_pointsOf_1 : decode cX7_pointsOf 1 = .ok (.istore_n 2, 1) := by decide +kernel
theorem dX7_pointsOf_2 : decode cX7_pointsOf 2 = .ok (.iconst 0, 1) := by decide +kernel
theorem dX7_pointsOf_3 : decode cX7_pointsOf 3 = .ok (.istore_n 3, 1) := by decide +kernel
theorem dX7_pointsOf_4 : decode cX7_pointsOf 4 = .ok (.iload_n 3, 1) := by decide +kernel
theorem dX7_pointsOf_5 : decode cX7_pointsOf 5 = .ok (.aload_n 0, 1) := by decide +kernel
theorem dX7_pointsOf_6 : decode cX7_pointsOf 6 = .ok (.getfield 150, 3) := by decide +kernel
theorem dX7_pointsOf_9 : decode cX7_pointsOf 9 = .ok (.if_icmp .ge 33, 3) := by decide +kernel
theorem dX7_pointsOf_12 : decode cX7_pointsOf 12 = .ok (.aload_n 0, 1) := by decide +kernel
theorem dX7_pointsOf_13 : decode cX7_pointsOf 13 = .ok (.getfield 69, 3) := by decide +kernel
theorem dX7_pointsOf_16 : decode cX7_pointsOf 16 = .ok (.iload_n 3, 1) := by decide +kernel
theorem dX7_pointsOf_17 : decode cX7_pointsOf 17 = .ok (.aload_n 0, 1) := by decide +kernel
theorem dX7_pointsOf_18 : decode cX7_pointsOf 18 = .ok (.iload_n 3, 1) := by decide +kernel
theorem dX7_pointsOf_19 : decode cX7_pointsOf 19 = .ok (.iload_n 1, 1) := by decide +kernel
theorem dX7_pointsOf_20 : decode cX7_pointsOf 20 = .ok (.invokevirtual 175, 3) := by decide +kernel
theorem dX7_pointsOf_23 : decode cX7_pointsOf 23 = .ok (.invokestatic 181, 3) := by decide +kernel
theorem dX7_pointsOf_26 : decode cX7_pointsOf 26 = .ok (.iastore, 1) := by decide +kernel
theorem dX7_pointsOf_27 : decode cX7_pointsOf 27 = .ok (.iload_n 2, 1) := by decide +kernel
theorem dX7_pointsOf_28 : decode cX7_pointsOf 28 = .ok (.aload_n 0, 1) := by decide +kernel
theorem dX7_pointsOf_29 : decode cX7_pointsOf 29 = .ok (.getfield 69, 3) := by decide +kernel
theorem dX7_pointsOf_32 : decode cX7_pointsOf 32 = .ok (.iload_n 3, 1) := by decide +kernel
theorem dX7_pointsOf_33 : decode cX7_pointsOf 33 = .ok (.iaload, 1) := by decide +kernel
theorem dX7_pointsOf_34 : decode cX7_pointsOf 34 = .ok (.iadd, 1) := by decide +kernel
theorem dX7_pointsOf_35 : decode cX7_pointsOf 35 = .ok (.istore_n 2, 1) := by decide +kernel
theorem dX7_pointsOf_36 : decode cX7_pointsOf 36 = .ok (.iinc 3 1, 3) := by decide +kernel
theorem dX7_pointsOf_39 : decode cX7_pointsOf 39 = .ok (.goto (-35), 3) := by decide +kernel
theorem dX7_pointsOf_42 : decode cX7_pointsOf 42 = .ok (.iconst 0, 1) := by decide +kernel
theorem dX7_pointsOf_43 : decode cX7_pointsOf 43 = .ok (.istore_n 3, 1) := by decide +kernel
theorem dX7_pointsOf_44 : decode cX7_pointsOf 44 = .ok (.iload_n 3, 1) := by decide +kernel
theorem dX7_pointsOf_45 : decode cX7_pointsOf 45 = .ok (.aload_n 0, 1) := by decide +kernel
theorem dX7_pointsOf_46 : decode cX7_pointsOf 46 = .ok (.getfield 178, 3) := by decide +kernel
theorem dX7_pointsOf_49 : decode cX7_pointsOf 49 = .ok (.if_icmp .ge 83, 3) := by decide +kernel
theorem dX7_pointsOf_52 : decode cX7_pointsOf 52 = .ok (.iload_n 3, 1) := by decide +kernel
theorem dX7_pointsOf_53 : decode cX7_pointsOf 53 = .ok (.aload_n 0, 1) := by decide +kernel
theorem dX7_pointsOf_54 : decode cX7_pointsOf 54 = .ok (.getfield 150, 3) := by decide +kernel
theorem dX7_pointsOf_57 : decode cX7_pointsOf 57 = .ok (.if_icmp .ge 75, 3) := by decide +kernel
theorem dX7_pointsOf_60 : decode cX7_pointsOf 60 = .ok (.iconst 0, 1) := by decide +kernel
theorem dX7_pointsOf_61 : decode cX7_pointsOf 61 = .ok (.istore 4, 2) := by decide +kernel
theorem dX7_pointsOf_63 : decode cX7_pointsOf 63 = .ok (.iconst 1, 1) := by decide +kernel
theorem dX7_pointsOf_64 : decode cX7_pointsOf 64 = .ok (.istore 5, 2) := by decide +kernel
theorem dX7_pointsOf_66 : decode cX7_pointsOf 66 = .ok (.iload 5, 2) := by decide +kernel
theorem dX7_pointsOf_68 : decode cX7_pointsOf 68 = .ok (.aload_n 0, 1) := by decide +kernel
theorem dX7_pointsOf_69 : decode cX7_pointsOf 69 = .ok (.getfield 150, 3) := by decide +kernel
theorem dX7_pointsOf_72 : decode cX7_pointsOf 72 = .ok (.if_icmp .ge 35, 3) := by decide +kernel
theorem dX7_pointsOf_75 : decode cX7_pointsOf 75 = .ok (.aload_n 0, 1) := by decide +kernel
theorem dX7_pointsOf_76 : decode cX7_pointsOf 76 = .ok (.getfield 69, 3) := by decide +kernel
theorem dX7_pointsOf_79 : decode cX7_pointsOf 79 = .ok (.iload 5, 2) := by decide +kernel
theorem dX7_pointsOf_81 : decode cX7_pointsOf 81 = .ok (.iaload, 1) := by decide +kernel
theorem dX7_pointsOf_82 : decode cX7_pointsOf 82 = .ok (.aload_n 0, 1) := by decide +kernel
theorem dX7_pointsOf_83 : decode cX7_pointsOf 83 = .ok (.getfield 69, 3) := by decide +kernel
theorem dX7_pointsOf_86 : decode cX7_pointsOf 86 = .ok (.iload 4, 2) := by decide +kernel
theorem dX7_pointsOf_88 : decode cX7_pointsOf 88 = .ok (.iaload, 1) := by decide +kernel
theorem dX7_pointsOf_89 : decode cX7_pointsOf 89 = .ok (.if_icmp .ge 8, 3) := by decide +kernel
theorem dX7_pointsOf_92 : decode cX7_pointsOf 92 = .ok (.iload 5, 2) := by decide +kernel
theorem dX7_pointsOf_94 : decode cX7_pointsOf 94 = .ok (.goto 5, 3) := by decide +kernel
theorem dX7_pointsOf_97 : decode cX7_pointsOf 97 = .ok (.iload 4, 2) := by decide +kernel
theorem dX7_pointsOf_99 : decode cX7_pointsOf 99 = .ok (.istore 4, 2) := by decide +kernel
theorem dX7_pointsOf_101 : decode cX7_pointsOf 101 = .ok (.iinc 5 1, 3) := by decide +kernel
theorem dX7_pointsOf_104 : decode cX7_pointsOf 104 = .ok (.goto (-38), 3) := by decide +kernel
theorem dX7_pointsOf_107 : decode cX7_pointsOf 107 = .ok (.iload_n 2, 1) := by decide +kernel
theorem dX7_pointsOf_108 : decode cX7_pointsOf 108 = .ok (.aload_n 0, 1) := by decide +kernel
theorem dX7_pointsOf_109 : decode cX7_pointsOf 109 = .ok (.getfield 69, 3) := by decide +kernel
theorem dX7_pointsOf_112 : decode cX7_pointsOf 112 = .ok (.iload 4, 2) := by decide +kernel
theorem dX7_pointsOf_114 : decode cX7_pointsOf 114 = .ok (.iaload, 1) := by decide +kernel
theorem dX7_pointsOf_115 : decode cX7_pointsOf 115 = .ok (.isub, 1) := by decide +kernel
theorem dX7_pointsOf_116 : decode cX7_pointsOf 116 = .ok (.istore_n 2, 1) := by decide +kernel
theorem dX7_pointsOf_117 : decode cX7_pointsOf 117 = .ok (.aload_n 0, 1) := by decide +kernel
theorem dX7_pointsOf_118 : decode cX7_pointsOf 118 = .ok (.getfield 69, 3) := by decide +kernel
theorem dX7_pointsOf_121 : decode cX7_pointsOf 121 = .ok (.iload 4, 2) := by decide +kernel
theorem dX7_pointsOf_123 : decode cX7_pointsOf 123 = .ok (.bipush 99, 2) := by decide +kernel
theorem dX7_pointsOf_125 : decode cX7_pointsOf 125 = .ok (.iastore, 1) := by decide +kernel
theorem dX7_pointsOf_126 : decode cX7_pointsOf 126 = .ok (.iinc 3 1, 3) := by decide +kernel
theorem dX7_pointsOf_129 : decode cX7_pointsOf 129 = .ok (.goto (-85), 3) := by decide +kernel
theorem dX7_pointsOf_132 : decode cX7_pointsOf 132 = .ok (.iload_n 2, 1) := by decide +kernel
theorem dX7_pointsOf_133 : decode cX7_pointsOf 133 = .ok (.ireturn, 1) := by decide +kernel
theorem dX7_winsOf_0 : decode cX7_winsOf 0 = .ok (.iconst 0, 1) := by decide +kernel
theorem dX7_winsOf_1 : decode cX7_winsOf 1 = .ok (.istore_n 2, 1) := by decide +kernel
theorem dX7_winsOf_2 : decode cX7_winsOf 2 = .ok (.iconst 0, 1) := by decide +kernel
theorem dX7_winsOf_3 : decode cX7_winsOf 3 = .ok (.istore_n 3, 1) := by decide +kernel
theorem dX7_winsOf_4 : decode cX7_winsOf 4 = .ok (.iload_n 3, 1) := by decide +kernel
theorem dX7_winsOf_5 : decode cX7_winsOf 5 = .ok (.aload_n 0, 1) := by decide +kernel
theorem dX7_winsOf_6 : decode cX7_winsOf 6 = .ok (.getfield 150, 3) := by decide +kernel
theorem dX7_winsOf_9 : decode cX7_winsOf 9 = .ok (.if_icmp .ge 27, 3) := by decide +kernel
theorem dX7_winsOf_12 : decode cX7_winsOf 12 = .ok (.iload_n 2, 1) := by decide +kernel
theorem dX7_winsOf_13 : decode cX7_winsOf 13 = .ok (.aload_n 0, 1) := by decide +kernel
theorem dX7_winsOf_14 : decode cX7_winsOf 14 = .ok (.iload_n 3, 1) := by decide +kernel
theorem dX7_winsOf_15 : decode cX7_winsOf 15 = .ok (.iload_n 1, 1) := by decide +kernel
theorem dX7_winsOf_16 : decode cX7_winsOf 16 = .ok (.invokevirtual 175, 3) := by decide +kernel
theorem dX7_winsOf_19 : decode cX7_winsOf 19 = .ok (.iconst 1, 1) := by decide +kernel
theorem dX7_winsOf_20 : decode cX7_winsOf 20 = .ok (.if_icmp .ne 7, 3) := by decide +kernel
theorem dX7_winsOf_23 : decode cX7_winsOf 23 = .ok (.iconst 1, 1) := by decide +kernel
theorem dX7_winsOf_24 : decode cX7_winsOf 24 = .ok (.goto 4, 3) := by decide +kernel
theorem dX7_winsOf_27 : decode cX7_winsOf 27 = .ok (.iconst 0, 1) := by decide +kernel
theorem dX7_winsOf_28 : decode cX7_winsOf 28 = .ok (.iadd, 1) := by decide +kernel
theorem dX7_winsOf_29 : decode cX7_winsOf 29 = .ok (.istore_n 2, 1) := by decide +kernel
theorem dX7_winsOf_30 : decode cX7_winsOf 30 = .ok (.iinc 3 1, 3) := by decide +kernel
theorem dX7_winsOf_33 : decode cX7_winsOf 33 = .ok (.goto (-29), 3) := by decide +kernel
theorem dX7_winsOf_36 : decode cX7_winsOf 36 = .ok (.iload_n 2, 1) := by decide +kernel
theorem dX7_winsOf_37 : decode cX7_winsOf 37 = .ok (.ireturn, 1) := by decide +kernel
theorem dX7_isNoDriver_0 : decode cX7_isNoDriver 0 = .ok (.iload_n 0, 1) := by decide +kernel
theorem dX7_isNoDriver_1 : decode cX7_isNoDriver 1 = .ok (.iconst 0, 1) := by decide +kernel
theorem dX7_isNoDriver_2 : decode cX7_isNoDriver 2 = .ok (.iconst 5, 1) := by decide +kernel
theorem dX7_isNoDriver_3 : decode cX7_isNoDriver 3 = .ok (.invokestatic 79, 3) := by decide +kernel
theorem dX7_isNoDriver_6 : decode cX7_isNoDriver 6 = .ok (.ifCond .ne 7, 3) := by decide +kernel
theorem dX7_isNoDriver_9 : decode cX7_isNoDriver 9 = .ok (.iconst 1, 1) := by decide +kernel
theorem dX7_isNoDriver_10 : decode cX7_isNoDriver 10 = .ok (.goto 4, 3) := by decide +kernel
theorem dX7_isNoDriver_13 : decode cX7_isNoDriver 13 = .ok (.iconst 0, 1) := by decide +kernel
theorem dX7_isNoDriver_14 : decode cX7_isNoDriver 14 = .ok (.ireturn, 1) := by decide +kernel
theorem dX7_points_0 : decode cX7_points 0 = .ok (.aload_n 0, 1) := by decide +kernel
theorem dX7_points_1 : decode cX7_points 1 = .ok (.iload_n 1, 1) := by decide +kernel
theorem dX7_points_2 : decode cX7_points 2 = .ok (.invokestatic 184, 3) := by decide +kernel
theorem dX7_points_5 : decode cX7_points 5 = .ok (.ifCond .eq 7, 3) := by decide +kernel
theorem dX7_points_8 : decode cX7_points 8 = .ok (.iconst 1, 1) := by decide +kernel
theorem dX7_points_9 : decode cX7_points 9 = .ok (.goto 4, 3) := by decide +kernel
theorem dX7_points_12 : decode cX7_points 12 = .ok (.iconst 0, 1) := by decide +kernel
theorem dX7_points_13 : decode cX7_points 13 = .ok (.invokevirtual 89, 3) := by decide +kernel
theorem dX7_points_16 : decode cX7_points 16 = .ok (.ifCond .eq 7, 3) := by decide +kernel
theorem dX7_points_19 : decode cX7_points 19 = .ok (.iconst 0, 1) := by decide +kernel
theorem dX7_points_20 : decode cX7_points 20 = .ok (.goto 8, 3) := by decide +kernel
theorem dX7_points_23 : decode cX7_points 23 = .ok (.aload_n 0, 1) := by decide +kernel
theorem dX7_points_24 : decode cX7_points 24 = .ok (.iload_n 1, 1) := by decide +kernel
theorem dX7_points_25 : decode cX7_points 25 = .ok (.invokevirtual 187, 3) := by decide +kernel
theorem dX7_points_28 : decode cX7_points 28 = .ok (.ireturn, 1) := by decide +kernel
theorem dX7_wins_0 : decode cX7_wins 0 = .ok (.aload_n 0, 1) := by decide +kernel
theorem dX7_wins_1 : decode cX7_wins 1 = .ok (.iload_n 1, 1) := by decide +kernel
theorem dX7_wins_2 : decode cX7_wins 2 = .ok (.invokestatic 184, 3) := by decide +kernel
theorem dX7_wins_5 : decode cX7_wins 5 = .ok (.ifCond .eq 7, 3) := by decide +kernel
theorem dX7_wins_8 : decode cX7_wins 8 = .ok (.iconst 1, 1) := by decide +kernel
theorem dX7_wins_9 : decode cX7_wins 9 = .ok (.goto 4, 3) := by decide +kernel
theorem dX7_wins_12 : decode cX7_wins 12 = .ok (.iconst 0, 1) := by decide +kernel
theorem dX7_wins_13 : decode cX7_wins 13 = .ok (.invokevirtual 89, 3) := by decide +kernel
theorem dX7_wins_16 : decode cX7_wins 16 = .ok (.ifCond .eq 7, 3) := by decide +kernel
theorem dX7_wins_19 : decode cX7_wins 19 = .ok (.iconst 0, 1) := by decide +kernel
theorem dX7_wins_20 : decode cX7_wins 20 = .ok (.goto 8, 3) := by decide +kernel
theorem dX7_wins_23 : decode cX7_wins 23 = .ok (.aload_n 0, 1) := by decide +kernel
theorem dX7_wins_24 : decode cX7_wins 24 = .ok (.iload_n 1, 1) := by decide +kernel
theorem dX7_wins_25 : decode cX7_wins 25 = .ok (.invokevirtual 190, 3) := by decide +kernel
theorem dX7_wins_28 : decode cX7_wins 28 = .ok (.ireturn, 1) := by decide +kernel
theorem dX7_standing_0 : decode cX7_standing 0 = .ok (.aload_n 0, 1) := by decide +kernel
theorem dX7_standing_1 : decode cX7_standing 1 = .ok (.iload_n 1, 1) := by decide +kernel
theorem dX7_standing_2 : decode cX7_standing 2 = .ok (.invokestatic 184, 3) := by decide +kernel
theorem dX7_standing_5 : decode cX7_standing 5 = .ok (.ifCond .eq 7, 3) := by decide +kernel
theorem dX7_standing_8 : decode cX7_standing 8 = .ok (.iconst 1, 1) := by decide +kernel
theorem dX7_standing_9 : decode cX7_standing 9 = .ok (.goto 4, 3) := by decide +kernel
theorem dX7_standing_12 : decode cX7_standing 12 = .ok (.iconst 0, 1) := by decide +kernel
theorem dX7_standing_13 : decode cX7_standing 13 = .ok (.invokevirtual 89, 3) := by decide +kernel
theorem dX7_standing_16 : decode cX7_standing 16 = .ok (.ifCond .eq 5, 3) := by decide +kernel
theorem dX7_standing_19 : decode cX7_standing 19 = .ok (.iconst 0, 1) := by decide +kernel
theorem dX7_standing_20 : decode cX7_standing 20 = .ok (.ireturn, 1) := by decide +kernel
theorem dX7_standing_21 : decode cX7_standing 21 = .ok (.iconst 0, 1) := by decide +kernel
theorem dX7_standing_22 : decode cX7_standing 22 = .ok (.istore_n 2, 1) := by decide +kernel
theorem dX7_standing_23 : decode cX7_standing 23 = .ok (.iconst 0, 1) := by decide +kernel
theorem dX7_standing_24 : decode cX7_standing 24 = .ok (.istore_n 3, 1) := by decide +kernel
theorem dX7_standing_25 : decode cX7_standing 25 = .ok (.iload_n 3, 1) := by decide +kernel
theorem dX7_standing_26 : decode cX7_standing 26 = .ok (.bipush 6, 2) := by decide +kernel
theorem dX7_standing_28 : decode cX7_standing 28 = .ok (.if_icmp .ge 105, 3) := by decide +kernel
theorem dX7_standing_31 : decode cX7_standing 31 = .ok (.iconst 0, 1) := by decide +kernel
theorem dX7_standing_32 : decode cX7_standing 32 = .ok (.istore 4, 2) := by decide +kernel
theorem dX7_standing_34 : decode cX7_standing 34 = .ok (.iconst 0, 1) := by decide +kernel
theorem dX7_standing_35 : decode cX7_standing 35 = .ok (.istore 5, 2) := by decide +kernel
theorem dX7_standing_37 : decode cX7_standing 37 = .ok (.iload 5, 2) := by decide +kernel
theorem dX7_standing_39 : decode cX7_standing 39 = .ok (.bipush 6, 2) := by decide +kernel
theorem dX7_standing_41 : decode cX7_standing 41 = .ok (.if_icmp .ge 74, 3) := by decide +kernel
theorem dX7_standing_44 : decode cX7_standing 44 = .ok (.aload_n 0, 1) := by decide +kernel
theorem dX7_standing_45 : decode cX7_standing 45 = .ok (.iload 5, 2) := by decide +kernel
theorem dX7_standing_47 : decode cX7_standing 47 = .ok (.invokevirtual 187, 3) := by decide +kernel
theorem dX7_standing_50 : decode cX7_standing 50 = .ok (.aload_n 0, 1) := by decide +kernel
theorem dX7_standing_51 : decode cX7_standing 51 = .ok (.iload_n 3, 1) := by decide +kernel
theorem dX7_standing_52 : decode cX7_standing 52 = .ok (.invokevirtual 187, 3) := by decide +kernel
theorem dX7_standing_55 : decode cX7_standing 55 = .ok (.isub, 1) := by decide +kernel
theorem dX7_standing_56 : decode cX7_standing 56 = .ok (.istore 6, 2) := by decide +kernel
theorem dX7_standing_58 : decode cX7_standing 58 = .ok (.iload 6, 2) := by decide +kernel
theorem dX7_standing_60 : decode cX7_standing 60 = .ok (.ifCond .ne 17, 3) := by decide +kernel
theorem dX7_standing_63 : decode cX7_standing 63 = .ok (.aload_n 0, 1) := by decide +kernel
theorem dX7_standing_64 : decode cX7_standing 64 = .ok (.iload 5, 2) := by decide +kernel
theorem dX7_standing_66 : decode cX7_standing 66 = .ok (.invokevirtual 190, 3) := by decide +kernel
theorem dX7_standing_69 : decode cX7_standing 69 = .ok (.aload_n 0, 1) := by decide +kernel
theorem dX7_standing_70 : decode cX7_standing 70 = .ok (.iload_n 3, 1) := by decide +kernel
theorem dX7_standing_71 : decode cX7_standing 71 = .ok (.invokevirtual 190, 3) := by decide +kernel
theorem dX7_standing_74 : decode cX7_standing 74 = .ok (.isub, 1) := by decide +kernel
theorem dX7_standing_75 : decode cX7_standing 75 = .ok (.istore 6, 2) := by decide +kernel
theorem dX7_standing_77 : decode cX7_standing 77 = .ok (.iload 4, 2) := by decide +kernel
theorem dX7_standing_79 : decode cX7_standing 79 = .ok (.iload 5, 2) := by decide +kernel
theorem dX7_standing_81 : decode cX7_standing 81 = .ok (.iload_n 3, 1) := by decide +kernel
theorem dX7_standing_82 : decode cX7_standing 82 = .ok (.if_icmp .eq 23, 3) := by decide +kernel
theorem dX7_standing_85 : decode cX7_standing 85 = .ok (.iload 6, 2) := by decide +kernel
theorem dX7_standing_87 : decode cX7_standing 87 = .ok (.ifCond .gt 14, 3) := by decide +kernel
theorem dX7_standing_90 : decode cX7_standing 90 = .ok (.iload 6, 2) := by decide +kernel
theorem dX7_standing_92 : decode cX7_standing 92 = .ok (.ifCond .ne 13, 3) := by decide +kernel
theorem dX7_standing_95 : decode cX7_standing 95 = .ok (.iload 5, 2) := by decide +kernel
theorem dX7_standing_97 : decode cX7_standing 97 = .ok (.iload_n 3, 1) := by decide +kernel
theorem dX7_standing_98 : decode cX7_standing 98 = .ok (.if_icmp .ge 7, 3) := by decide +kernel
theorem dX7_standing_101 : decode cX7_standing 101 = .ok (.iconst 1, 1) := by decide +kernel
theorem dX7_standing_102 : decode cX7_standing 102 = .ok (.goto 4, 3) := by decide +kernel
theorem dX7_standing_105 : decode cX7_standing 105 = .ok (.iconst 0, 1) := by decide +kernel
theorem dX7_standing_106 : decode cX7_standing 106 = .ok (.iadd, 1) := by decide +kernel
theorem dX7_standing_107 : decode cX7_standing 107 = .ok (.istore 4, 2) := by decide +kernel
theorem dX7_standing_109 : decode cX7_standing 109 = .ok (.iinc 5 1, 3) := by decide +kernel
theorem dX7_standing_112 : decode cX7_standing 112 = .ok (.goto (-75), 3) := by decide +kernel
theorem dX7_standing_115 : decode cX7_standing 115 = .ok (.iload 4, 2) := by decide +kernel
theorem dX7_standing_117 : decode cX7_standing 117 = .ok (.iload_n 1, 1) := by decide +kernel
theorem dX7_standing_118 : decode cX7_standing 118 = .ok (.if_icmp .ne 7, 3) := by decide +kernel
theorem dX7_standing_121 : decode cX7_standing 121 = .ok (.iload_n 3, 1) := by decide +kernel
theorem dX7_standing_122 : decode cX7_standing 122 = .ok (.goto 4, 3) := by decide +kernel
theorem dX7_standing_125 : decode cX7_standing 125 = .ok (.iload_n 2, 1) := by decide +kernel
theorem dX7_standing_126 : decode cX7_standing 126 = .ok (.istore_n 2, 1) := by decide +kernel
theorem dX7_standing_127 : decode cX7_standing 127 = .ok (.iinc 3 1, 3) := by decide +kernel
theorem dX7_standing_130 : decode cX7_standing 130 = .ok (.goto (-105), 3) := by decide +kernel
theorem dX7_standing_133 : decode cX7_standing 133 = .ok (.iload_n 2, 1) := by decide +kernel
theorem dX7_standing_134 : decode cX7_standing 134 = .ok (.ireturn, 1) := by decide +kernel
theorem dX7_checksum_0 : decode cX7_checksum 0 = .ok (.aload_n 0, 1) := by decide +kernel
theorem dX7_checksum_1 : decode cX7_checksum 1 = .ok (.iconst 0, 1) := by decide +kernel
theorem dX7_checksum_2 : decode cX7_checksum 2 = .ok (.putfield 72, 3) := by decide +kernel
theorem dX7_checksum_5 : decode cX7_checksum 5 = .ok (.ldc2_w 193, 3) := by decide +kernel
theorem dX7_checksum_8 : decode cX7_checksum 8 = .ok (.lstore_n 1, 1) := by decide +kernel
theorem dX7_checksum_9 : decode cX7_checksum 9 = .ok (.iconst 0, 1) := by decide +kernel
theorem dX7_checksum_10 : decode cX7_checksum 10 = .ok (.istore_n 3, 1) := by decide +kernel
theorem dX7_checksum_11 : decode cX7_checksum 11 = .ok (.iload_n 3, 1) := by decide +kernel
theorem dX7_checksum_12 : decode cX7_checksum 12 = .ok (.aload_n 0, 1) := by decide +kernel
theorem dX7_checksum_13 : decode cX7_checksum 13 = .ok (.getfield 86, 3) := by decide +kernel
theorem dX7_checksum_16 : decode cX7_checksum 16 = .ok (.if_icmp .ge 54, 3) := by decide +kernel
theorem dX7_checksum_19 : decode cX7_checksum 19 = .ok (.ldc2_w 195, 3) := by decide +kernel
theorem dX7_checksum_22 : decode cX7_checksum 22 = .ok (.lload_n 1, 1) := by decide +kernel
theorem dX7_checksum_23 : decode cX7_checksum 23 = .ok (.lmul, 1) := by decide +kernel
theorem dX7_checksum_24 : decode cX7_checksum 24 = .ok (.aload_n 0, 1) := by decide +kernel
theorem dX7_checksum_25 : decode cX7_checksum 25 = .ok (.getfield 38, 3) := by decide +kernel
theorem dX7_checksum_28 : decode cX7_checksum 28 = .ok (.iload_n 3, 1) := by decide +kernel
theorem dX7_checksum_29 : decode cX7_checksum 29 = .ok (.iaload, 1) := by decide +kernel
theorem dX7_checksum_30 : decode cX7_checksum 30 = .ok (.i2l, 1) := by decide +kernel
theorem dX7_checksum_31 : decode cX7_checksum 31 = .ok (.ladd, 1) := by decide +kernel
theorem dX7_checksum_32 : decode cX7_checksum 32 = .ok (.aload_n 0, 1) := by decide +kernel
theorem dX7_checksum_33 : decode cX7_checksum 33 = .ok (.getfield 41, 3) := by decide +kernel
theorem dX7_checksum_36 : decode cX7_checksum 36 = .ok (.iload_n 3, 1) := by decide +kernel
theorem dX7_checksum_37 : decode cX7_checksum 37 = .ok (.iaload, 1) := by decide +kernel
theorem dX7_checksum_38 : decode cX7_checksum 38 = .ok (.i2l, 1) := by decide +kernel
theorem dX7_checksum_39 : decode cX7_checksum 39 = .ok (.ladd, 1) := by decide +kernel
theorem dX7_checksum_40 : decode cX7_checksum 40 = .ok (.aload_n 0, 1) := by decide +kernel
theorem dX7_checksum_41 : decode cX7_checksum 41 = .ok (.iload_n 3, 1) := by decide +kernel
theorem dX7_checksum_42 : decode cX7_checksum 42 = .ok (.invokevirtual 159, 3) := by decide +kernel
theorem dX7_checksum_45 : decode cX7_checksum 45 = .ok (.i2l, 1) := by decide +kernel
theorem dX7_checksum_46 : decode cX7_checksum 46 = .ok (.ladd, 1) := by decide +kernel
theorem dX7_checksum_47 : decode cX7_checksum 47 = .ok (.aload_n 0, 1) := by decide +kernel
theorem dX7_checksum_48 : decode cX7_checksum 48 = .ok (.getfield 62, 3) := by decide +kernel
theorem dX7_checksum_51 : decode cX7_checksum 51 = .ok (.iload_n 3, 1) := by decide +kernel
theorem dX7_checksum_52 : decode cX7_checksum 52 = .ok (.baload, 1) := by decide +kernel
theorem dX7_checksum_53 : decode cX7_checksum 53 = .ok (.ifCond .eq 7, 3) := by decide +kernel
theorem dX7_checksum_56 : decode cX7_checksum 56 = .ok (.iconst 0, 1) := by decide +kernel
theorem dX7_checksum_57 : decode cX7_checksum 57 = .ok (.goto 4, 3) := by decide +kernel
theorem dX7_checksum_60 : decode cX7_checksum 60 = .ok (.iconst 1, 1) := by decide +kernel
theorem dX7_checksum_61 : decode cX7_checksum 61 = .ok (.i2l, 1) := by decide +kernel
theorem dX7_checksum_62 : decode cX7_checksum 62 = .ok (.ladd, 1) := by decide +kernel
theorem dX7_checksum_63 : decode cX7_checksum 63 = .ok (.lstore_n 1, 1) := by decide +kernel
theorem dX7_checksum_64 : decode cX7_checksum 64 = .ok (.iinc 3 1, 3) := by decide +kernel
theorem dX7_checksum_67 : decode cX7_checksum 67 = .ok (.goto (-56), 3) := by decide +kernel
theorem dX7_checksum_70 : decode cX7_checksum 70 = .ok (.lload_n 1, 1) := by decide +kernel
theorem dX7_checksum_71 : decode cX7_checksum 71 = .ok (.lreturn, 1) := by decide +kernel
theorem dX7_shareStored_0 : decode cX7_shareStored 0 = .ok (.iconst 0, 1) := by decide +kernel
theorem dX7_shareStored_1 : decode cX7_shareStored 1 = .ok (.istore_n 1, 1) := by decide +kernel
theorem dX7_shareStored_2 : decode cX7_shareStored 2 = .ok (.iconst 0, 1) := by decide +kernel
theorem dX7_shareStored_3 : decode cX7_shareStored 3 = .ok (.istore_n 2, 1) := by decide +kernel
theorem dX7_shareStored_4 : decode cX7_shareStored 4 = .ok (.iload_n 2, 1) := by decide +kernel
theorem dX7_shareStored_5 : decode cX7_shareStored 5 = .ok (.aload_n 0, 1) := by decide +kernel
theorem dX7_shareStored_6 : decode cX7_shareStored 6 = .ok (.getfield 86, 3) := by decide +kernel
theorem dX7_shareStored_9 : decode cX7_shareStored 9 = .ok (.if_icmp .ge 18, 3) := by decide +kernel
theorem dX7_shareStored_12 : decode cX7_shareStored 12 = .ok (.iload_n 1, 1) := by decide +kernel
theorem dX7_shareStored_13 : decode cX7_shareStored 13 = .ok (.aload_n 0, 1) := by decide +kernel
theorem dX7_shareStored_14 : decode cX7_shareStored 14 = .ok (.getfield 35, 3) := by decide +kernel
theorem dX7_shareStored_17 : decode cX7_shareStored 17 = .ok (.iload_n 2, 1) := by decide +kernel
theorem dX7_shareStored_18 : decode cX7_shareStored 18 = .ok (.iaload, 1) := by decide +kernel
theorem dX7_shareStored_19 : decode cX7_shareStored 19 = .ok (.iadd, 1) := by decide +kernel
theorem dX7_shareStored_20 : decode cX7_shareStored 20 = .ok (.istore_n 1, 1) := by decide +kernel
theorem dX7_shareStored_21 : decode cX7_shareStored 21 = .ok (.iinc 2 1, 3) := by decide +kernel
theorem dX7_shareStored_24 : decode cX7_shareStored 24 = .ok (.goto (-20), 3) := by decide +kernel
theorem dX7_shareStored_27 : decode cX7_shareStored 27 = .ok (.aload_n 0, 1) := by decide +kernel
theorem dX7_shareStored_28 : decode cX7_shareStored 28 = .ok (.aload_n 0, 1) := by decide +kernel
theorem dX7_shareStored_29 : decode cX7_shareStored 29 = .ok (.getfield 86, 3) := by decide +kernel
theorem dX7_shareStored_32 : decode cX7_shareStored 32 = .ok (.ifCond .ne 7, 3) := by decide +kernel
theorem dX7_shareStored_35 : decode cX7_shareStored 35 = .ok (.iconst 1, 1) := by decide +kernel
theorem dX7_shareStored_36 : decode cX7_shareStored 36 = .ok (.goto 4, 3) := by decide +kernel
theorem dX7_shareStored_39 : decode cX7_shareStored 39 = .ok (.iconst 0, 1) := by decide +kernel
theorem dX7_shareStored_40 : decode cX7_shareStored 40 = .ok (.invokevirtual 89, 3) := by decide +kernel
theorem dX7_shareStored_43 : decode cX7_shareStored 43 = .ok (.ifCond .eq 7, 3) := by decide +kernel
theorem dX7_shareStored_46 : decode cX7_shareStored 46 = .ok (.fconst 0, 1) := by decide +kernel
theorem dX7_shareStored_47 : decode cX7_shareStored 47 = .ok (.goto 11, 3) := by decide +kernel
theorem dX7_shareStored_50 : decode cX7_shareStored 50 = .ok (.aload_n 0, 1) := by decide +kernel
theorem dX7_shareStored_51 : decode cX7_shareStored 51 = .ok (.invokevirtual 162, 3) := by decide +kernel
theorem dX7_shareStored_54 : decode cX7_shareStored 54 = .ok (.i2f, 1) := by decide +kernel
theorem dX7_shareStored_55 : decode cX7_shareStored 55 = .ok (.iload_n 1, 1) := by decide +kernel
theorem dX7_shareStored_56 : decode cX7_shareStored 56 = .ok (.i2f, 1) := by decide +kernel
theorem dX7_shareStored_57 : decode cX7_shareStored 57 = .ok (.fdiv, 1) := by decide +kernel
theorem dX7_shareStored_58 : decode cX7_shareStored 58 = .ok (.freturn, 1) := by decide +kernel
theorem dX7_meanTime_0 : decode cX7_meanTime 0 = .ok (.iconst 0, 1) := by decide +kernel
theorem dX7_meanTime_1 : decode cX7_meanTime 1 = .ok (.istore_n 1, 1) := by decide +kernel
theorem dX7_meanTime_2 : decode cX7_meanTime 2 = .ok (.iconst 0, 1) := by decide +kernel
theorem dX7_meanTime_3 : decode cX7_meanTime 3 = .ok (.istore_n 2, 1) := by decide +kernel
theorem dX7_meanTime_4 : decode cX7_meanTime 4 = .ok (.iconst 0, 1) := by decide +kernel
theorem dX7_meanTime_5 : decode cX7_meanTime 5 = .ok (.istore_n 3, 1) := by decide +kernel
theorem dX7_meanTime_6 : decode cX7_meanTime 6 = .ok (.iload_n 3, 1) := by decide +kernel
theorem dX7_meanTime_7 : decode cX7_meanTime 7 = .ok (.aload_n 0, 1) := by decide +kernel
theorem dX7_meanTime_8 : decode cX7_meanTime 8 = .ok (.getfield 86, 3) := by decide +kernel
theorem dX7_meanTime_11 : decode cX7_meanTime 11 = .ok (.if_icmp .ge 47, 3) := by decide +kernel
theorem dX7_meanTime_14 : decode cX7_meanTime 14 = .ok (.iload_n 1, 1) := by decide +kernel
theorem dX7_meanTime_15 : decode cX7_meanTime 15 = .ok (.aload_n 0, 1) := by decide +kernel
theorem dX7_meanTime_16 : decode cX7_meanTime 16 = .ok (.getfield 62, 3) := by decide +kernel
theorem dX7_meanTime_19 : decode cX7_meanTime 19 = .ok (.iload_n 3, 1) := by decide +kernel
theorem dX7_meanTime_20 : decode cX7_meanTime 20 = .ok (.baload, 1) := by decide +kernel
theorem dX7_meanTime_21 : decode cX7_meanTime 21 = .ok (.ifCond .eq 7, 3) := by decide +kernel
theorem dX7_meanTime_24 : decode cX7_meanTime 24 = .ok (.iconst 0, 1) := by decide +kernel
theorem dX7_meanTime_25 : decode cX7_meanTime 25 = .ok (.goto 4, 3) := by decide +kernel
theorem dX7_meanTime_28 : decode cX7_meanTime 28 = .ok (.iconst 1, 1) := by decide +kernel
theorem dX7_meanTime_29 : decode cX7_meanTime 29 = .ok (.iadd, 1) := by decide +kernel
theorem dX7_meanTime_30 : decode cX7_meanTime 30 = .ok (.istore_n 1, 1) := by decide +kernel
theorem dX7_meanTime_31 : decode cX7_meanTime 31 = .ok (.iload_n 2, 1) := by decide +kernel
theorem dX7_meanTime_32 : decode cX7_meanTime 32 = .ok (.aload_n 0, 1) := by decide +kernel
theorem dX7_meanTime_33 : decode cX7_meanTime 33 = .ok (.getfield 62, 3) := by decide +kernel
theorem dX7_meanTime_36 : decode cX7_meanTime 36 = .ok (.iload_n 3, 1) := by decide +kernel
theorem dX7_meanTime_37 : decode cX7_meanTime 37 = .ok (.baload, 1) := by decide +kernel
theorem dX7_meanTime_38 : decode cX7_meanTime 38 = .ok (.ifCond .eq 7, 3) := by decide +kernel
theorem dX7_meanTime_41 : decode cX7_meanTime 41 = .ok (.iconst 0, 1) := by decide +kernel
theorem dX7_meanTime_42 : decode cX7_meanTime 42 = .ok (.goto 8, 3) := by decide +kernel
theorem dX7_meanTime_45 : decode cX7_meanTime 45 = .ok (.aload_n 0, 1) := by decide +kernel
theorem dX7_meanTime_46 : decode cX7_meanTime 46 = .ok (.iload_n 3, 1) := by decide +kernel
theorem dX7_meanTime_47 : decode cX7_meanTime 47 = .ok (.invokevirtual 156, 3) := by decide +kernel
theorem dX7_meanTime_50 : decode cX7_meanTime 50 = .ok (.iadd, 1) := by decide +kernel
theorem dX7_meanTime_51 : decode cX7_meanTime 51 = .ok (.istore_n 2, 1) := by decide +kernel
theorem dX7_meanTime_52 : decode cX7_meanTime 52 = .ok (.iinc 3 1, 3) := by decide +kernel
theorem dX7_meanTime_55 : decode cX7_meanTime 55 = .ok (.goto (-49), 3) := by decide +kernel
theorem dX7_meanTime_58 : decode cX7_meanTime 58 = .ok (.aload_n 0, 1) := by decide +kernel
theorem dX7_meanTime_59 : decode cX7_meanTime 59 = .ok (.iload_n 1, 1) := by decide +kernel
theorem dX7_meanTime_60 : decode cX7_meanTime 60 = .ok (.ifCond .ne 7, 3) := by decide +kernel
theorem dX7_meanTime_63 : decode cX7_meanTime 63 = .ok (.iconst 1, 1) := by decide +kernel
theorem dX7_meanTime_64 : decode cX7_meanTime 64 = .ok (.goto 4, 3) := by decide +kernel
theorem dX7_meanTime_67 : decode cX7_meanTime 67 = .ok (.iconst 0, 1) := by decide +kernel
theorem dX7_meanTime_68 : decode cX7_meanTime 68 = .ok (.invokevirtual 89, 3) := by decide +kernel
theorem dX7_meanTime_71 : decode cX7_meanTime 71 = .ok (.ifCond .eq 7, 3) := by decide +kernel
theorem dX7_meanTime_74 : decode cX7_meanTime 74 = .ok (.dconst 0, 1) := by decide +kernel
theorem dX7_meanTime_75 : decode cX7_meanTime 75 = .ok (.goto 8, 3) := by decide +kernel
theorem dX7_meanTime_78 : decode cX7_meanTime 78 = .ok (.iload_n 2, 1) := by decide +kernel
theorem dX7_meanTime_79 : decode cX7_meanTime 79 = .ok (.i2d, 1) := by decide +kernel
theorem dX7_meanTime_80 : decode cX7_meanTime 80 = .ok (.iload_n 1, 1) := by decide +kernel
theorem dX7_meanTime_81 : decode cX7_meanTime 81 = .ok (.i2d, 1) := by decide +kernel
theorem dX7_meanTime_82 : decode cX7_meanTime 82 = .ok (.ddiv, 1) := by decide +kernel
theorem dX7_meanTime_83 : decode cX7_meanTime 83 = .ok (.dreturn, 1) := by decide +kernel
theorem dX7_isSound_0 : decode cX7_isSound 0 = .ok (.aload_n 0, 1) := by decide +kernel
theorem dX7_isSound_1 : decode cX7_isSound 1 = .ok (.iconst 0, 1) := by decide +kernel
theorem dX7_isSound_2 : decode cX7_isSound 2 = .ok (.putfield 72, 3) := by decide +kernel
theorem dX7_isSound_5 : decode cX7_isSound 5 = .ok (.iconst 1, 1) := by decide +kernel
theorem dX7_isSound_6 : decode cX7_isSound 6 = .ok (.ireturn, 1) := by decide +kernel
