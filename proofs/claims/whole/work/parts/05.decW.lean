theorem dL_track_0 : decode cL_track 0 = .ok (.aload_n 1, 1) := by decide +kernel
theorem dL_track_1 : decode cL_track 1 = .ok (.iconst 0, 1) := by decide +kernel
theorem dL_track_2 : decode cL_track 2 = .ok (.aload_n 0, 1) := by decide +kernel
theorem dL_track_3 : decode cL_track 3 = .ok (.invokevirtual 7, 3) := by decide +kernel
theorem dL_track_6 : decode cL_track 6 = .ok (.i2l, 1) := by decide +kernel
theorem dL_track_7 : decode cL_track 7 = .ok (.lastore, 1) := by decide +kernel
theorem dL_track_8 : decode cL_track 8 = .ok (.goto 6, 3) := by decide +kernel
theorem dL_track_11 : decode cL_track 11 = .ok (.astore_n 2, 1) := by decide +kernel
theorem dL_track_12 : decode cL_track 12 = .ok (.iconst 1, 1) := by decide +kernel
theorem dL_track_13 : decode cL_track 13 = .ok (.ireturn, 1) := by decide +kernel
theorem dL_track_14 : decode cL_track 14 = .ok (.iconst 0, 1) := by decide +kernel
theorem dL_track_15 : decode cL_track 15 = .ok (.ireturn, 1) := by decide +kernel
theorem dL_stretch_0 : decode cL_stretch 0 = .ok (.aload 4, 2) := by decide +kernel
theorem dL_stretch_2 : decode cL_stretch 2 = .ok (.iconst 0, 1) := by decide +kernel
theorem dL_stretch_3 : decode cL_stretch 3 = .ok (.aload_n 0, 1) := by decide +kernel
theorem dL_stretch_4 : decode cL_stretch 4 = .ok (.iload_n 1, 1) := by decide +kernel
theorem dL_stretch_5 : decode cL_stretch 5 = .ok (.iload_n 2, 1) := by decide +kernel
theorem dL_stretch_6 : decode cL_stretch 6 = .ok (.iload_n 3, 1) := by decide +kernel
theorem dL_stretch_7 : decode cL_stretch 7 = .ok (.invokevirtual 15, 3) := by decide +kernel
theorem dL_stretch_10 : decode cL_stretch 10 = .ok (.i2l, 1) := by decide +kernel
theorem dL_stretch_11 : decode cL_stretch 11 = .ok (.lastore, 1) := by decide +kernel
theorem dL_stretch_12 : decode cL_stretch 12 = .ok (.goto 19, 3) := by decide +kernel
theorem dL_stretch_15 : decode cL_stretch 15 = .ok (.astore 5, 2) := by decide +kernel
theorem dL_stretch_17 : decode cL_stretch 17 = .ok (.iconst 1, 1) := by decide +kernel
theorem dL_stretch_18 : decode cL_stretch 18 = .ok (.ireturn, 1) := by decide +kernel
theorem dL_stretch_19 : decode cL_stretch 19 = .ok (.astore 5, 2) := by decide +kernel
theorem dL_stretch_21 : decode cL_stretch 21 = .ok (.iconst 2, 1) := by decide +kernel
theorem dL_stretch_22 : decode cL_stretch 22 = .ok (.ireturn, 1) := by decide +kernel
theorem dL_stretch_23 : decode cL_stretch 23 = .ok (.astore 5, 2) := by decide +kernel
theorem dL_stretch_25 : decode cL_stretch 25 = .ok (.iconst 3, 1) := by decide +kernel
theorem dL_stretch_26 : decode cL_stretch 26 = .ok (.ireturn, 1) := by decide +kernel
theorem dL_stretch_27 : decode cL_stretch 27 = .ok (.astore 5, 2) := by decide +kernel
theorem dL_stretch_29 : decode cL_stretch 29 = .ok (.iconst 4, 1) := by decide +kernel
theorem dL_stretch_30 : decode cL_stretch 30 = .ok (.ireturn, 1) := by decide +kernel
theorem dL_stretch_31 : decode cL_stretch 31 = .ok (.iconst 0, 1) := by decide +kernel
theorem dL_stretch_32 : decode cL_stretch 32 = .ok (.ireturn, 1) := by decide +kernel
theorem dL_car_0 : decode cL_car 0 = .ok (.aload 4, 2) := by decide +kernel
theorem dL_car_2 : decode cL_car 2 = .ok (.iconst 0, 1) := by decide +kernel
theorem dL_car_3 : decode cL_car 3 = .ok (.aload_n 0, 1) := by decide +kernel
theorem dL_car_4 : decode cL_car 4 = .ok (.iload_n 1, 1) := by decide +kernel
theorem dL_car_5 : decode cL_car 5 = .ok (.iload_n 2, 1) := by decide +kernel
theorem dL_car_6 : decode cL_car 6 = .ok (.iload_n 3, 1) := by decide +kernel
theorem dL_car_7 : decode cL_car 7 = .ok (.invokevirtual 25, 3) := by decide +kernel
theorem dL_car_10 : decode cL_car 10 = .ok (.i2l, 1) := by decide +kernel
theorem dL_car_11 : decode cL_car 11 = .ok (.lastore, 1) := by decide +kernel
theorem dL_car_12 : decode cL_car 12 = .ok (.goto 11, 3) := by decide +kernel
theorem dL_car_15 : decode cL_car 15 = .ok (.astore 5, 2) := by decide +kernel
theorem dL_car_17 : decode cL_car 17 = .ok (.iconst 1, 1) := by decide +kernel
theorem dL_car_18 : decode cL_car 18 = .ok (.ireturn, 1) := by decide +kernel
theorem dL_car_19 : decode cL_car 19 = .ok (.astore 5, 2) := by decide +kernel
theorem dL_car_21 : decode cL_car 21 = .ok (.iconst 2, 1) := by decide +kernel
theorem dL_car_22 : decode cL_car 22 = .ok (.ireturn, 1) := by decide +kernel
theorem dL_car_23 : decode cL_car 23 = .ok (.iconst 0, 1) := by decide +kernel
theorem dL_car_24 : decode cL_car 24 = .ok (.ireturn, 1) := by decide +kernel
theorem dL_lengthOf_0 : decode cL_lengthOf 0 = .ok (.aload_n 2, 1) := by decide +kernel
theorem dL_lengthOf_1 : decode cL_lengthOf 1 = .ok (.iconst 0, 1) := by decide +kernel
theorem dL_lengthOf_2 : decode cL_lengthOf 2 = .ok (.aload_n 0, 1) := by decide +kernel
theorem dL_lengthOf_3 : decode cL_lengthOf 3 = .ok (.iload_n 1, 1) := by decide +kernel
theorem dL_lengthOf_4 : decode cL_lengthOf 4 = .ok (.invokevirtual 28, 3) := by decide +kernel
theorem dL_lengthOf_7 : decode cL_lengthOf 7 = .ok (.i2l, 1) := by decide +kernel
theorem dL_lengthOf_8 : decode cL_lengthOf 8 = .ok (.lastore, 1) := by decide +kernel
theorem dL_lengthOf_9 : decode cL_lengthOf 9 = .ok (.goto 6, 3) := by decide +kernel
theorem dL_lengthOf_12 : decode cL_lengthOf 12 = .ok (.astore_n 3, 1) := by decide +kernel
theorem dL_lengthOf_13 : decode cL_lengthOf 13 = .ok (.iconst 1, 1) := by decide +kernel
theorem dL_lengthOf_14 : decode cL_lengthOf 14 = .ok (.ireturn, 1) := by decide +kernel
theorem dL_lengthOf_15 : decode cL_lengthOf 15 = .ok (.iconst 0, 1) := by decide +kernel
theorem dL_lengthOf_16 : decode cL_lengthOf 16 = .ok (.ireturn, 1) := by decide +kernel
theorem dL_limitAt_0 : decode cL_limitAt 0 = .ok (.aload_n 3, 1) := by decide +kernel
theorem dL_limitAt_1 : decode cL_limitAt 1 = .ok (.iconst 0, 1) := by decide +kernel
theorem dL_limitAt_2 : decode cL_limitAt 2 = .ok (.aload_n 0, 1) := by decide +kernel
theorem dL_limitAt_3 : decode cL_limitAt 3 = .ok (.iload_n 1, 1) := by decide +kernel
theorem dL_limitAt_4 : decode cL_limitAt 4 = .ok (.iload_n 2, 1) := by decide +kernel
theorem dL_limitAt_5 : decode cL_limitAt 5 = .ok (.invokevirtual 32, 3) := by decide +kernel
theorem dL_limitAt_8 : decode cL_limitAt 8 = .ok (.i2l, 1) := by decide +kernel
theorem dL_limitAt_9 : decode cL_limitAt 9 = .ok (.lastore, 1) := by decide +kernel
theorem dL_limitAt_10 : decode cL_limitAt 10 = .ok (.goto 11, 3) := by decide +kernel
theorem dL_limitAt_13 : decode cL_limitAt 13 = .ok (.astore 4, 2) := by decide +kernel
theorem dL_limitAt_15 : decode cL_limitAt 15 = .ok (.iconst 1, 1) := by decide +kernel
theorem dL_limitAt_16 : decode cL_limitAt 16 = .ok (.ireturn, 1) := by decide +kernel
theorem dL_limitAt_17 : decode cL_limitAt 17 = .ok (.astore 4, 2) := by decide +kernel
theorem dL_limitAt_19 : decode cL_limitAt 19 = .ok (.iconst 2, 1) := by decide +kernel
theorem dL_limitAt_20 : decode cL_limitAt 20 = .ok (.ireturn, 1) := by decide +kernel
theorem dL_limitAt_21 : decode cL_limitAt 21 = .ok (.iconst 0, 1) := by decide +kernel
theorem dL_limitAt_22 : decode cL_limitAt 22 = .ok (.ireturn, 1) := by decide +kernel
theorem dL_type_0 : decode cL_type 0 = .ok (.aload_n 3, 1) := by decide +kernel
theorem dL_type_1 : decode cL_type 1 = .ok (.iconst 0, 1) := by decide +kernel
theorem dL_type_2 : decode cL_type 2 = .ok (.aload_n 0, 1) := by decide +kernel
theorem dL_type_3 : decode cL_type 3 = .ok (.iload_n 1, 1) := by decide +kernel
theorem dL_type_4 : decode cL_type 4 = .ok (.iload_n 2, 1) := by decide +kernel
theorem dL_type_5 : decode cL_type 5 = .ok (.invokevirtual 38, 3) := by decide +kernel
theorem dL_type_8 : decode cL_type 8 = .ok (.i2l, 1) := by decide +kernel
theorem dL_type_9 : decode cL_type 9 = .ok (.lastore, 1) := by decide +kernel
theorem dL_type_10 : decode cL_type 10 = .ok (.goto 11, 3) := by decide +kernel
theorem dL_type_13 : decode cL_type 13 = .ok (.astore 4, 2) := by decide +kernel
theorem dL_type_15 : decode cL_type 15 = .ok (.iconst 1, 1) := by decide +kernel
theorem dL_type_16 : decode cL_type 16 = .ok (.ireturn, 1) := by decide +kernel
theorem dL_type_17 : decode cL_type 17 = .ok (.astore 4, 2) := by decide +kernel
theorem dL_type_19 : decode cL_type 19 = .ok (.iconst 2, 1) := by decide +kernel
theorem dL_type_20 : decode cL_type 20 = .ok (.ireturn, 1) := by decide +kernel
theorem dL_type_21 : decode cL_type 21 = .ok (.iconst 0, 1) := by decide +kernel
theorem dL_type_22 : decode cL_type 22 = .ok (.ireturn, 1) := by decide +kernel
theorem dL_drive_0 : decode cL_drive 0 = .ok (.aload 5, 2) := by decide +kernel
theorem dL_drive_2 : decode cL_drive 2 = .ok (.iconst 0, 1) := by decide +kernel
theorem dL_drive_3 : decode cL_drive 3 = .ok (.aload_n 0, 1) := by decide +kernel
theorem dL_drive_4 : decode cL_drive 4 = .ok (.iload_n 1, 1) := by decide +kernel
theorem dL_drive_5 : decode cL_drive 5 = .ok (.iload_n 2, 1) := by decide +kernel
theorem dL_drive_6 : decode cL_drive 6 = .ok (.iload_n 3, 1) := by decide +kernel
theorem dL_drive_7 : decode cL_drive 7 = .ok (.iload 4, 2) := by decide +kernel
theorem dL_drive_9 : decode cL_drive 9 = .ok (.invokevirtual 42, 3) := by decide +kernel
theorem dL_drive_12 : decode cL_drive 12 = .ok (.i2l, 1) := by decide +kernel
theorem dL_drive_13 : decode cL_drive 13 = .ok (.lastore, 1) := by decide +kernel
theorem dL_drive_14 : decode cL_drive 14 = .ok (.goto 19, 3) := by decide +kernel
theorem dL_drive_17 : decode cL_drive 17 = .ok (.astore 6, 2) := by decide +kernel
theorem dL_drive_19 : decode cL_drive 19 = .ok (.iconst 1, 1) := by decide +kernel
theorem dL_drive_20 : decode cL_drive 20 = .ok (.ireturn, 1) := by decide +kernel
theorem dL_drive_21 : decode cL_drive 21 = .ok (.astore 6, 2) := by decide +kernel
theorem dL_drive_23 : decode cL_drive 23 = .ok (.iconst 2, 1) := by decide +kernel
theorem dL_drive_24 : decode cL_drive 24 = .ok (.ireturn, 1) := by decide +kernel
theorem dL_drive_25 : decode cL_drive 25 = .ok (.astore 6, 2) := by decide +kernel
theorem dL_drive_27 : decode cL_drive 27 = .ok (.iconst 3, 1) := by decide +kernel
theorem dL_drive_28 : decode cL_drive 28 = .ok (.ireturn, 1) := by decide +kernel
theorem dL_drive_29 : decode cL_drive 29 = .ok (.astore 6, 2) := by decide +kernel
theorem dL_drive_31 : decode cL_drive 31 = .ok (.iconst 4, 1) := by decide +kernel
theorem dL_drive_32 : decode cL_drive 32 = .ok (.ireturn, 1) := by decide +kernel
theorem dL_drive_33 : decode cL_drive 33 = .ok (.iconst 0, 1) := by decide +kernel
theorem dL_drive_34 : decode cL_drive 34 = .ok (.ireturn, 1) := by decide +kernel
theorem dL_tryOut_0 : decode cL_tryOut 0 = .ok (.aload_n 3, 1) := by decide +kernel
theorem dL_tryOut_1 : decode cL_tryOut 1 = .ok (.iconst 0, 1) := by decide +kernel
theorem dL_tryOut_2 : decode cL_tryOut 2 = .ok (.aload_n 0, 1) := by decide +kernel
theorem dL_tryOut_3 : decode cL_tryOut 3 = .ok (.iload_n 1, 1) := by decide +kernel
theorem dL_tryOut_4 : decode cL_tryOut 4 = .ok (.iload_n 2, 1) := by decide +kernel
theorem dL_tryOut_5 : decode cL_tryOut 5 = .ok (.invokevirtual 46, 3) := by decide +kernel
theorem dL_tryOut_8 : decode cL_tryOut 8 = .ok (.i2l, 1) := by decide +kernel
theorem dL_tryOut_9 : decode cL_tryOut 9 = .ok (.lastore, 1) := by decide +kernel
theorem dL_tryOut_10 : decode cL_tryOut 10 = .ok (.goto 11, 3) := by decide +kernel
theorem dL_tryOut_13 : decode cL_tryOut 13 = .ok (.astore 4, 2) := by decide +kernel
theorem dL_tryOut_15 : decode cL_tryOut 15 = .ok (.iconst 1, 1) := by decide +kernel
theorem dL_tryOut_16 : decode cL_tryOut 16 = .ok (.ireturn, 1) := by decide +kernel
theorem dL_tryOut_17 : decode cL_tryOut 17 = .ok (.astore 4, 2) := by decide +kernel
theorem dL_tryOut_19 : decode cL_tryOut 19 = .ok (.iconst 2, 1) := by decide +kernel
theorem dL_tryOut_20 : decode cL_tryOut 20 = .ok (.ireturn, 1) := by decide +kernel
theorem dL_tryOut_21 : decode cL_tryOut 21 = .ok (.iconst 0, 1) := by decide +kernel
theorem dL_tryOut_22 : decode cL_tryOut 22 = .ok (.ireturn, 1) := by decide +kernel
theorem dL_time_0 : decode cL_time 0 = .ok (.aload_n 3, 1) := by decide +kernel
theorem dL_time_1 : decode cL_time 1 = .ok (.iconst 0, 1) := by decide +kernel
theorem dL_time_2 : decode cL_time 2 = .ok (.aload_n 0, 1) := by decide +kernel
theorem dL_time_3 : decode cL_time 3 = .ok (.iload_n 1, 1) := by decide +kernel
theorem dL_time_4 : decode cL_time 4 = .ok (.iload_n 2, 1) := by decide +kernel
theorem dL_time_5 : decode cL_time 5 = .ok (.invokevirtual 49, 3) := by decide +kernel
theorem dL_time_8 : decode cL_time 8 = .ok (.i2l, 1) := by decide +kernel
theorem dL_time_9 : decode cL_time 9 = .ok (.lastore, 1) := by decide +kernel
theorem dL_time_10 : decode cL_time 10 = .ok (.goto 7, 3) := by decide +kernel
theorem dL_time_13 : decode cL_time 13 = .ok (.astore 4, 2) := by decide +kernel
theorem dL_time_15 : decode cL_time 15 = .ok (.iconst 1, 1) := by decide +kernel
theorem dL_time_16 : decode cL_time 16 = .ok (.ireturn, 1) := by decide +kernel
theorem dL_time_17 : decode cL_time 17 = .ok (.iconst 0, 1) := by decide +kernel
theorem dL_time_18 : decode cL_time 18 = .ok (.ireturn, 1) := by decide +kernel
theorem dL_ticks_0 : decode cL_ticks 0 = .ok (.aload_n 2, 1) := by decide +kernel
theorem dL_ticks_1 : decode cL_ticks 1 = .ok (.iconst 0, 1) := by decide +kernel
theorem dL_ticks_2 : decode cL_ticks 2 = .ok (.aload_n 0, 1) := by decide +kernel
theorem dL_ticks_3 : decode cL_ticks 3 = .ok (.iload_n 1, 1) := by decide +kernel
theorem dL_ticks_4 : decode cL_ticks 4 = .ok (.invokevirtual 53, 3) := by decide +kernel
theorem dL_ticks_7 : decode cL_ticks 7 = .ok (.i2l, 1) := by decide +kernel
theorem dL_ticks_8 : decode cL_ticks 8 = .ok (.lastore, 1) := by decide +kernel
theorem dL_ticks_9 : decode cL_ticks 9 = .ok (.goto 6, 3) := by decide +kernel
theorem dL_ticks_12 : decode cL_ticks 12 = .ok (.astore_n 3, 1) := by decide +kernel
theorem dL_ticks_13 : decode cL_ticks 13 = .ok (.iconst 1, 1) := by decide +kernel
theorem dL_ticks_14 : decode cL_ticks 14 = .ok (.ireturn, 1) := by decide +kernel
theorem dL_ticks_15 : decode cL_ticks 15 = .ok (.iconst 0, 1) := by decide +kernel
theorem dL_ticks_16 : decode cL_ticks 16 = .ok (.ireturn, 1) := by decide +kernel
theorem dL_inputAt_0 : decode cL_inputAt 0 = .ok (.aload_n 3, 1) := by decide +kernel
theorem dL_inputAt_1 : decode cL_inputAt 1 = .ok (.iconst 0, 1) := by decide +kernel
theorem dL_inputAt_2 : decode cL_inputAt 2 = .ok (.aload_n 0, 1) := by decide +kernel
theorem dL_inputAt_3 : decode cL_inputAt 3 = .ok (.iload_n 1, 1) := by decide +kernel
theorem dL_inputAt_4 : decode cL_inputAt 4 = .ok (.iload_n 2, 1) := by decide +kernel
theorem dL_inputAt_5 : decode cL_inputAt 5 = .ok (.invokevirtual 56, 3) := by decide +kernel
theorem dL_inputAt_8 : decode cL_inputAt 8 = .ok (.i2l, 1) := by decide +kernel
theorem dL_inputAt_9 : decode cL_inputAt 9 = .ok (.lastore, 1) := by decide +kernel
theorem dL_inputAt_10 : decode cL_inputAt 10 = .ok (.goto 11, 3) := by decide +kernel
theorem dL_inputAt_13 : decode cL_inputAt 13 = .ok (.astore 4, 2) := by decide +kernel
theorem dL_inputAt_15 : decode cL_inputAt 15 = .ok (.iconst 1, 1) := by decide +kernel
theorem dL_inputAt_16 : decode cL_inputAt 16 = .ok (.ireturn, 1) := by decide +kernel
theorem dL_inputAt_17 : decode cL_inputAt 17 = .ok (.astore 4, 2) := by decide +kernel
theorem dL_inputAt_19 : decode cL_inputAt 19 = .ok (.iconst 2, 1) := by decide +kernel
theorem dL_inputAt_20 : decode cL_inputAt 20 = .ok (.ireturn, 1) := by decide +kernel
theorem dL_inputAt_21 : decode cL_inputAt 21 = .ok (.iconst 0, 1) := by decide +kernel
theorem dL_inputAt_22 : decode cL_inputAt 22 = .ok (.ireturn, 1) := by decide +kernel
theorem dL_replay_0 : decode cL_replay 0 = .ok (.aload 4, 2) := by decide +kernel
theorem dL_replay_2 : decode cL_replay 2 = .ok (.iconst 0, 1) := by decide +kernel
theorem dL_replay_3 : decode cL_replay 3 = .ok (.aload_n 0, 1) := by decide +kernel
theorem dL_replay_4 : decode cL_replay 4 = .ok (.iload_n 1, 1) := by decide +kernel
theorem dL_replay_5 : decode cL_replay 5 = .ok (.iload_n 2, 1) := by decide +kernel
theorem dL_replay_6 : decode cL_replay 6 = .ok (.iload_n 3, 1) := by decide +kernel
theorem dL_replay_7 : decode cL_replay 7 = .ok (.invokevirtual 60, 3) := by decide +kernel
theorem dL_replay_10 : decode cL_replay 10 = .ok (.i2l, 1) := by decide +kernel
theorem dL_replay_11 : decode cL_replay 11 = .ok (.lastore, 1) := by decide +kernel
theorem dL_replay_12 : decode cL_replay 12 = .ok (.goto 11, 3) := by decide +kernel
theorem dL_replay_15 : decode cL_replay 15 = .ok (.astore 5, 2) := by decide +kernel
theorem dL_replay_17 : decode cL_replay 17 = .ok (.iconst 1, 1) := by decide +kernel
theorem dL_replay_18 : decode cL_replay 18 = .ok (.ireturn, 1) := by decide +kernel
theorem dL_replay_19 : decode cL_replay 19 = .ok (.astore 5, 2) := by decide +kernel
theorem dL_replay_21 : decode cL_replay 21 = .ok (.iconst 2, 1) := by decide +kernel
theorem dL_replay_22 : decode cL_replay 22 = .ok (.ireturn, 1) := by decide +kernel
theorem dL_replay_23 : decode cL_replay 23 = .ok (.iconst 0, 1) := by decide +kernel
theorem dL_replay_24 : decode cL_replay 24 = .ok (.ireturn, 1) := by decide +kernel
theorem dL_of_0 : decode cL_of 0 = .ok (.aload_n 3, 1) := by decide +kernel
theorem dL_of_1 : decode cL_of 1 = .ok (.iconst 0, 1) := by decide +kernel
theorem dL_of_2 : decode cL_of 2 = .ok (.aload_n 0, 1) := by decide +kernel
theorem dL_of_3 : decode cL_of 3 = .ok (.iload_n 1, 1) := by decide +kernel
theorem dL_of_4 : decode cL_of 4 = .ok (.iload_n 2, 1) := by decide +kernel
theorem dL_of_5 : decode cL_of 5 = .ok (.invokevirtual 64, 3) := by decide +kernel
theorem dL_of_8 : decode cL_of 8 = .ok (.i2l, 1) := by decide +kernel
theorem dL_of_9 : decode cL_of 9 = .ok (.lastore, 1) := by decide +kernel
theorem dL_of_10 : decode cL_of 10 = .ok (.goto 11, 3) := by decide +kernel
theorem dL_of_13 : decode cL_of 13 = .ok (.astore 4, 2) := by decide +kernel
theorem dL_of_15 : decode cL_of 15 = .ok (.iconst 1, 1) := by decide +kernel
theorem dL_of_16 : decode cL_of 16 = .ok (.ireturn, 1) := by decide +kernel
theorem dL_of_17 : decode cL_of 17 = .ok (.astore 4, 2) := by decide +kernel
theorem dL_of_19 : decode cL_of 19 = .ok (.iconst 2, 1) := by decide +kernel
theorem dL_of_20 : decode cL_of 20 = .ok (.ireturn, 1) := by decide +kernel
theorem dL_of_21 : decode cL_of 21 = .ok (.iconst 0, 1) := by decide +kernel
theorem dL_of_22 : decode cL_of 22 = .ok (.ireturn, 1) := by decide +kernel
theorem dL_beats_0 : decode cL_beats 0 = .ok (.aload_n 2, 1) := by decide +kernel
theorem dL_beats_1 : decode cL_beats 1 = .ok (.iconst 0, 1) := by decide +kernel
theorem dL_beats_2 : decode cL_beats 2 = .ok (.aload_n 0, 1) := by decide +kernel
theorem dL_beats_3 : decode cL_beats 3 = .ok (.iload_n 1, 1) := by decide +kernel
theorem dL_beats_4 : decode cL_beats 4 = .ok (.invokevirtual 68, 3) := by decide +kernel
theorem dL_beats_7 : decode cL_beats 7 = .ok (.ifCond .eq 7, 3) := by decide +kernel
theorem dL_beats_10 : decode cL_beats 10 = .ok (.lconst 1, 1) := by decide +kernel
theorem dL_beats_11 : decode cL_beats 11 = .ok (.goto 4, 3) := by decide +kernel
theorem dL_beats_14 : decode cL_beats 14 = .ok (.lconst 0, 1) := by decide +kernel
theorem dL_beats_15 : decode cL_beats 15 = .ok (.lastore, 1) := by decide +kernel
theorem dL_beats_16 : decode cL_beats 16 = .ok (.goto 9, 3) := by decide +kernel
theorem dL_beats_19 : decode cL_beats 19 = .ok (.astore_n 3, 1) := by decide +kernel
theorem dL_beats_20 : decode cL_beats 20 = .ok (.iconst 1, 1) := by decide +kernel
theorem dL_beats_21 : decode cL_beats 21 = .ok (.ireturn, 1) := by decide +kernel
theorem dL_beats_22 : decode cL_beats 22 = .ok (.astore_n 3, 1) := by decide +kernel
theorem dL_beats_23 : decode cL_beats 23 = .ok (.iconst 2, 1) := by decide +kernel
theorem dL_beats_24 : decode cL_beats 24 = .ok (.ireturn, 1) := by decide +kernel
theorem dL_beats_25 : decode cL_beats 25 = .ok (.iconst 0, 1) := by decide +kernel
theorem dL_beats_26 : decode cL_beats 26 = .ok (.ireturn, 1) := by decide +kernel
theorem dL_least_0 : decode cL_least 0 = .ok (.aload_n 2, 1) := by decide +kernel
theorem dL_least_1 : decode cL_least 1 = .ok (.iconst 0, 1) := by decide +kernel
theorem dL_least_2 : decode cL_least 2 = .ok (.aload_n 0, 1) := by decide +kernel
theorem dL_least_3 : decode cL_least 3 = .ok (.iload_n 1, 1) := by decide +kernel
theorem dL_least_4 : decode cL_least 4 = .ok (.invokevirtual 72, 3) := by decide +kernel
theorem dL_least_7 : decode cL_least 7 = .ok (.i2l, 1) := by decide +kernel
theorem dL_least_8 : decode cL_least 8 = .ok (.lastore, 1) := by decide +kernel
theorem dL_least_9 : decode cL_least 9 = .ok (.goto 9, 3) := by decide +kernel
theorem dL_least_12 : decode cL_least 12 = .ok (.astore_n 3, 1) := by decide +kernel
theorem dL_least_13 : decode cL_least 13 = .ok (.iconst 1, 1) := by decide +kernel
theorem dL_least_14 : decode cL_least 14 = .ok (.ireturn, 1) := by decide +kernel
theorem dL_least_15 : decode cL_least 15 = .ok (.astore_n 3, 1) := by decide +kernel
theorem dL_least_16 : decode cL_least 16 = .ok (.iconst 2, 1) := by decide +kernel
theorem dL_least_17 : decode cL_least 17 = .ok (.ireturn, 1) := by decide +kernel
theorem dL_least_18 : decode cL_least 18 = .ok (.iconst 0, 1) := by decide +kernel
theorem dL_least_19 : decode cL_least 19 = .ok (.ireturn, 1) := by decide +kernel
theorem dL_base_0 : decode cL_base 0 = .ok (.aload_n 2, 1) := by decide +kernel
theorem dL_base_1 : decode cL_base 1 = .ok (.iconst 0, 1) := by decide +kernel
theorem dL_base_2 : decode cL_base 2 = .ok (.aload_n 0, 1) := by decide +kernel
theorem dL_base_3 : decode cL_base 3 = .ok (.iload_n 1, 1) := by decide +kernel
theorem dL_base_4 : decode cL_base 4 = .ok (.invokevirtual 75, 3) := by decide +kernel
theorem dL_base_7 : decode cL_base 7 = .ok (.i2l, 1) := by decide +kernel
theorem dL_base_8 : decode cL_base 8 = .ok (.lastore, 1) := by decide +kernel
theorem dL_base_9 : decode cL_base 9 = .ok (.goto 9, 3) := by decide +kernel
theorem dL_base_12 : decode cL_base 12 = .ok (.astore_n 3, 1) := by decide +kernel
theorem dL_base_13 : decode cL_base 13 = .ok (.iconst 1, 1) := by decide +kernel
theorem dL_base_14 : decode cL_base 14 = .ok (.ireturn, 1) := by decide +kernel
theorem dL_base_15 : decode cL_base 15 = .ok (.astore_n 3, 1) := by decide +kernel
theorem dL_base_16 : decode cL_base 16 = .ok (.iconst 2, 1) := by decide +kernel
theorem dL_base_17 : decode cL_base 17 = .ok (.ireturn, 1) := by decide +kernel
theorem dL_base_18 : decode cL_base 18 = .ok (.iconst 0, 1) := by decide +kernel
theorem dL_base_19 : decode cL_base 19 = .ok (.ireturn, 1) := by decide +kernel
theorem dL_depth_0 : decode cL_depth 0 = .ok (.aload_n 2, 1) := by decide +kernel
theorem dL_depth_1 : decode cL_depth 1 = .ok (.iconst 0, 1) := by decide +kernel
theorem dL_depth_2 : decode cL_depth 2 = .ok (.aload_n 0, 1) := by decide +kernel
theorem dL_depth_3 : decode cL_depth 3 = .ok (.iload_n 1, 1) := by decide +kernel
theorem dL_depth_4 : decode cL_depth 4 = .ok (.invokevirtual 78, 3) := by decide +kernel
theorem dL_depth_7 : decode cL_depth 7 = .ok (.i2l, 1) := by decide +kernel
theorem dL_depth_8 : decode cL_depth 8 = .ok (.lastore, 1) := by decide +kernel
theorem dL_depth_9 : decode cL_depth 9 = .ok (.goto 6, 3) := by decide +kernel
theorem dL_depth_12 : decode cL_depth 12 = .ok (.astore_n 3, 1) := by decide +kernel
theorem dL_depth_13 : decode cL_depth 13 = .ok (.iconst 1, 1) := by decide +kernel
theorem dL_depth_14 : decode cL_depth 14 = .ok (.ireturn, 1) := by decide +kernel
theorem dL_depth_15 : decode cL_depth 15 = .ok (.iconst 0, 1) := by decide +kernel
theorem dL_depth_16 : decode cL_depth 16 = .ok (.ireturn, 1) := by decide +kernel
theorem dL_parts_0 : decode cL_parts 0 = .ok (.aload_n 2, 1) := by decide +kernel
theorem dL_parts_1 : decode cL_parts 1 = .ok (.iconst 0, 1) := by decide +kernel
theorem dL_parts_2 : decode cL_parts 2 = .ok (.aload_n 0, 1) := by decide +kernel
theorem dL_parts_3 : decode cL_parts 3 = .ok (.iload_n 1, 1) := by decide +kernel
theorem dL_parts_4 : decode cL_parts 4 = .ok (.invokevirtual 81, 3) := by decide +kernel
theorem dL_parts_7 : decode cL_parts 7 = .ok (.i2l, 1) := by decide +kernel
theorem dL_parts_8 : decode cL_parts 8 = .ok (.lastore, 1) := by decide +kernel
theorem dL_parts_9 : decode cL_parts 9 = .ok (.goto 6, 3) := by decide +kernel
theorem dL_parts_12 : decode cL_parts 12 = .ok (.astore_n 3, 1) := by decide +kernel
theorem dL_parts_13 : decode cL_parts 13 = .ok (.iconst 1, 1) := by decide +kernel
theorem dL_parts_14 : decode cL_parts 14 = .ok (.ireturn, 1) := by decide +kernel
theorem dL_parts_15 : decode cL_parts 15 = .ok (.iconst 0, 1) := by decide +kernel
theorem dL_parts_16 : decode cL_parts 16 = .ok (.ireturn, 1) := by decide +kernel
theorem dL_resting_0 : decode cL_resting 0 = .ok (.aload_n 2, 1) := by decide +kernel
theorem dL_resting_1 : decode cL_resting 1 = .ok (.iconst 0, 1) := by decide +kernel
theorem dL_resting_2 : decode cL_resting 2 = .ok (.aload_n 0, 1) := by decide +kernel
theorem dL_resting_3 : decode cL_resting 3 = .ok (.iload_n 1, 1) := by decide +kernel
theorem dL_resting_4 : decode cL_resting 4 = .ok (.invokevirtual 84, 3) := by decide +kernel
theorem dL_resting_7 : decode cL_resting 7 = .ok (.i2l, 1) := by decide +kernel
theorem dL_resting_8 : decode cL_resting 8 = .ok (.lastore, 1) := by decide +kernel
theorem dL_resting_9 : decode cL_resting 9 = .ok (.goto 6, 3) := by decide +kernel
theorem dL_resting_12 : decode cL_resting 12 = .ok (.astore_n 3, 1) := by decide +kernel
theorem dL_resting_13 : decode cL_resting 13 = .ok (.iconst 1, 1) := by decide +kernel
theorem dL_resting_14 : decode cL_resting 14 = .ok (.ireturn, 1) := by decide +kernel
theorem dL_resting_15 : decode cL_resting 15 = .ok (.iconst 0, 1) := by decide +kernel
theorem dL_resting_16 : decode cL_resting 16 = .ok (.ireturn, 1) := by decide +kernel
theorem dL_strike_0 : decode cL_strike 0 = .ok (.aload_n 2, 1) := by decide +kernel
theorem dL_strike_1 : decode cL_strike 1 = .ok (.iconst 0, 1) := by decide +kernel
theorem dL_strike_2 : decode cL_strike 2 = .ok (.aload_n 0, 1) := by decide +kernel
theorem dL_strike_3 : decode cL_strike 3 = .ok (.iload_n 1, 1) := by decide +kernel
theorem dL_strike_4 : decode cL_strike 4 = .ok (.invokevirtual 87, 3) := by decide +kernel
theorem dL_strike_7 : decode cL_strike 7 = .ok (.i2l, 1) := by decide +kernel
theorem dL_strike_8 : decode cL_strike 8 = .ok (.lastore, 1) := by decide +kernel
theorem dL_strike_9 : decode cL_strike 9 = .ok (.goto 9, 3) := by decide +kernel
theorem dL_strike_12 : decode cL_strike 12 = .ok (.astore_n 3, 1) := by decide +kernel
theorem dL_strike_13 : decode cL_strike 13 = .ok (.iconst 1, 1) := by decide +kernel
theorem dL_strike_14 : decode cL_strike 14 = .ok (.ireturn, 1) := by decide +kernel
theorem dL_strike_15 : decode cL_strike 15 = .ok (.astore_n 3, 1) := by decide +kernel
theorem dL_strike_16 : decode cL_strike 16 = .ok (.iconst 2, 1) := by decide +kernel
theorem dL_strike_17 : decode cL_strike 17 = .ok (.ireturn, 1) := by decide +kernel
theorem dL_strike_18 : decode cL_strike 18 = .ok (.iconst 0, 1) := by decide +kernel
theorem dL_strike_19 : decode cL_strike 19 = .ok (.ireturn, 1) := by decide +kernel
theorem dL_giveBack_0 : decode cL_giveBack 0 = .ok (.aload_n 2, 1) := by decide +kernel
theorem dL_giveBack_1 : decode cL_giveBack 1 = .ok (.iconst 0, 1) := by decide +kernel
theorem dL_giveBack_2 : decode cL_giveBack 2 = .ok (.aload_n 0, 1) := by decide +kernel
theorem dL_giveBack_3 : decode cL_giveBack 3 = .ok (.iload_n 1, 1) := by decide +kernel
theorem dL_giveBack_4 : decode cL_giveBack 4 = .ok (.invokevirtual 90, 3) := by decide +kernel
theorem dL_giveBack_7 : decode cL_giveBack 7 = .ok (.i2l, 1) := by decide +kernel
theorem dL_giveBack_8 : decode cL_giveBack 8 = .ok (.lastore, 1) := by decide +kernel
theorem dL_giveBack_9 : decode cL_giveBack 9 = .ok (.goto 9, 3) := by decide +kernel
theorem dL_giveBack_12 : decode cL_giveBack 12 = .ok (.astore_n 3, 1) := by decide +kernel
theorem dL_giveBack_13 : decode cL_giveBack 13 = .ok (.iconst 1, 1) := by decide +kernel
theorem dL_giveBack_14 : decode cL_giveBack 14 = .ok (.ireturn, 1) := by decide +kernel
theorem dL_giveBack_15 : decode cL_giveBack 15 = .ok (.astore_n 3, 1) := by decide +kernel
theorem dL_giveBack_16 : decode cL_giveBack 16 = .ok (.iconst 2, 1) := by decide +kernel
theorem dL_giveBack_17 : decode cL_giveBack 17 = .ok (.ireturn, 1) := by decide +kernel
theorem dL_giveBack_18 : decode cL_giveBack 18 = .ok (.iconst 0, 1) := by decide +kernel
theorem dL_giveBack_19 : decode cL_giveBack 19 = .ok (.ireturn, 1) := by decide +kernel
theorem dL_stands_0 : decode cL_stands 0 = .ok (.aload_n 2, 1) := by decide +kernel
theorem dL_stands_1 : decode cL_stands 1 = .ok (.iconst 0, 1) := by decide +kernel
theorem dL_stands_2 : decode cL_stands 2 = .ok (.aload_n 0, 1) := by decide +kernel
theorem dL_stands_3 : decode cL_stands 3 = .ok (.iload_n 1, 1) := by decide +kernel
theorem dL_stands_4 : decode cL_stands 4 = .ok (.invokevirtual 93, 3) := by decide +kernel
theorem dL_stands_7 : decode cL_stands 7 = .ok (.ifCond .eq 7, 3) := by decide +kernel
theorem dL_stands_10 : decode cL_stands 10 = .ok (.lconst 1, 1) := by decide +kernel
theorem dL_stands_11 : decode cL_stands 11 = .ok (.goto 4, 3) := by decide +kernel
theorem dL_stands_14 : decode cL_stands 14 = .ok (.lconst 0, 1) := by decide +kernel
theorem dL_stands_15 : decode cL_stands 15 = .ok (.lastore, 1) := by decide +kernel
theorem dL_stands_16 : decode cL_stands 16 = .ok (.goto 6, 3) := by decide +kernel
theorem dL_stands_19 : decode cL_stands 19 = .ok (.astore_n 3, 1) := by decide +kernel
theorem dL_stands_20 : decode cL_stands 20 = .ok (.iconst 1, 1) := by decide +kernel
theorem dL_stands_21 : decode cL_stands 21 = .ok (.ireturn, 1) := by decide +kernel
theorem dL_stands_22 : decode cL_stands 22 = .ok (.iconst 0, 1) := by decide +kernel
theorem dL_stands_23 : decode cL_stands 23 = .ok (.ireturn, 1) := by decide +kernel
theorem dL_penalty_0 : decode cL_penalty 0 = .ok (.aload_n 3, 1) := by decide +kernel
theorem dL_penalty_1 : decode cL_penalty 1 = .ok (.iconst 0, 1) := by decide +kernel
theorem dL_penalty_2 : decode cL_penalty 2 = .ok (.aload_n 0, 1) := by decide +kernel
theorem dL_penalty_3 : decode cL_penalty 3 = .ok (.iload_n 1, 1) := by decide +kernel
theorem dL_penalty_4 : decode cL_penalty 4 = .ok (.iload_n 2, 1) := by decide +kernel
theorem dL_penalty_5 : decode cL_penalty 5 = .ok (.invokevirtual 96, 3) := by decide +kernel
theorem dL_penalty_8 : decode cL_penalty 8 = .ok (.i2l, 1) := by decide +kernel
theorem dL_penalty_9 : decode cL_penalty 9 = .ok (.lastore, 1) := by decide +kernel
theorem dL_penalty_10 : decode cL_penalty 10 = .ok (.goto 11, 3) := by decide +kernel
theorem dL_penalty_13 : decode cL_penalty 13 = .ok (.astore 4, 2) := by decide +kernel
theorem dL_penalty_15 : decode cL_penalty 15 = .ok (.iconst 1, 1) := by decide +kernel
theorem dL_penalty_16 : decode cL_penalty 16 = .ok (.ireturn, 1) := by decide +kernel
theorem dL_penalty_17 : decode cL_penalty 17 = .ok (.astore 4, 2) := by decide +kernel
theorem dL_penalty_19 : decode cL_penalty 19 = .ok (.iconst 2, 1) := by decide +kernel
theorem dL_penalty_20 : decode cL_penalty 20 = .ok (.ireturn, 1) := by decide +kernel
theorem dL_penalty_21 : decode cL_penalty 21 = .ok (.iconst 0, 1) := by decide +kernel
theorem dL_penalty_22 : decode cL_penalty 22 = .ok (.ireturn, 1) := by decide +kernel
theorem dL_round_0 : decode cL_round 0 = .ok (.aload_n 2, 1) := by decide +kernel
theorem dL_round_1 : decode cL_round 1 = .ok (.iconst 0, 1) := by decide +kernel
theorem dL_round_2 : decode cL_round 2 = .ok (.aload_n 0, 1) := by decide +kernel
theorem dL_round_3 : decode cL_round 3 = .ok (.iload_n 1, 1) := by decide +kernel
theorem dL_round_4 : decode cL_round 4 = .ok (.invokevirtual 99, 3) := by decide +kernel
theorem dL_round_7 : decode cL_round 7 = .ok (.i2l, 1) := by decide +kernel
theorem dL_round_8 : decode cL_round 8 = .ok (.lastore, 1) := by decide +kernel
theorem dL_round_9 : decode cL_round 9 = .ok (.goto 9, 3) := by decide +kernel
theorem dL_round_12 : decode cL_round 12 = .ok (.astore_n 3, 1) := by decide +kernel
theorem dL_round_13 : decode cL_round 13 = .ok (.iconst 1, 1) := by decide +kernel
theorem dL_round_14 : decode cL_round 14 = .ok (.ireturn, 1) := by decide +kernel
theorem dL_round_15 : decode cL_round 15 = .ok (.astore_n 3, 1) := by decide +kernel
theorem dL_round_16 : decode cL_round 16 = .ok (.iconst 2, 1) := by decide +kernel
theorem dL_round_17 : decode cL_round 17 = .ok (.ireturn, 1) := by decide +kernel
theorem dL_round_18 : decode cL_round 18 = .ok (.iconst 0, 1) := by decide +kernel
theorem dL_round_19 : decode cL_round 19 = .ok (.ireturn, 1) := by decide +kernel
theorem dL_shut_0 : decode cL_shut 0 = .ok (.aload_n 1, 1) := by decide +kernel
theorem dL_shut_1 : decode cL_shut 1 = .ok (.iconst 0, 1) := by decide +kernel
theorem dL_shut_2 : decode cL_shut 2 = .ok (.aload_n 0, 1) := by decide +kernel
theorem dL_shut_3 : decode cL_shut 3 = .ok (.invokevirtual 102, 3) := by decide +kernel
theorem dL_shut_6 : decode cL_shut 6 = .ok (.i2l, 1) := by decide +kernel
theorem dL_shut_7 : decode cL_shut 7 = .ok (.lastore, 1) := by decide +kernel
theorem dL_shut_8 : decode cL_shut 8 = .ok (.goto 6, 3) := by decide +kernel
theorem dL_shut_11 : decode cL_shut 11 = .ok (.astore_n 2, 1) := by decide +kernel
theorem dL_shut_12 : decode cL_shut 12 = .ok (.iconst 1, 1) := by decide +kernel
theorem dL_shut_13 : decode cL_shut 13 = .ok (.ireturn, 1) := by decide +kernel
theorem dL_shut_14 : decode cL_shut 14 = .ok (.iconst 0, 1) := by decide +kernel
theorem dL_shut_15 : decode cL_shut 15 = .ok (.ireturn, 1) := by decide +kernel
theorem dL_lapIn_0 : decode cL_lapIn 0 = .ok (.aload_n 3, 1) := by decide +kernel
theorem dL_lapIn_1 : decode cL_lapIn 1 = .ok (.iconst 0, 1) := by decide +kernel
theorem dL_lapIn_2 : decode cL_lapIn 2 = .ok (.aload_n 0, 1) := by decide +kernel
theorem dL_lapIn_3 : decode cL_lapIn 3 = .ok (.iload_n 1, 1) := by decide +kernel
theorem dL_lapIn_4 : decode cL_lapIn 4 = .ok (.iload_n 2, 1) := by decide +kernel
theorem dL_lapIn_5 : decode cL_lapIn 5 = .ok (.invokevirtual 105, 3) := by decide +kernel
theorem dL_lapIn_8 : decode cL_lapIn 8 = .ok (.i2l, 1) := by decide +kernel
theorem dL_lapIn_9 : decode cL_lapIn 9 = .ok (.lastore, 1) := by decide +kernel
theorem dL_lapIn_10 : decode cL_lapIn 10 = .ok (.goto 11, 3) := by decide +kernel
theorem dL_lapIn_13 : decode cL_lapIn 13 = .ok (.astore 4, 2) := by decide +kernel
theorem dL_lapIn_15 : decode cL_lapIn 15 = .ok (.iconst 1, 1) := by decide +kernel
theorem dL_lapIn_16 : decode cL_lapIn 16 = .ok (.ireturn, 1) := by decide +kernel
theorem dL_lapIn_17 : decode cL_lapIn 17 = .ok (.astore 4, 2) := by decide +kernel
theorem dL_lapIn_19 : decode cL_lapIn 19 = .ok (.iconst 2, 1) := by decide +kernel
theorem dL_lapIn_20 : decode cL_lapIn 20 = .ok (.ireturn, 1) := by decide +kernel
theorem dL_lapIn_21 : decode cL_lapIn 21 = .ok (.iconst 0, 1) := by decide +kernel
theorem dL_lapIn_22 : decode cL_lapIn 22 = .ok (.ireturn, 1) := by decide +kernel
theorem dL_placeIn_0 : decode cL_placeIn 0 = .ok (.aload_n 3, 1) := by decide +kernel
theorem dL_placeIn_1 : decode cL_placeIn 1 = .ok (.iconst 0, 1) := by decide +kernel
theorem dL_placeIn_2 : decode cL_placeIn 2 = .ok (.aload_n 0, 1) := by decide +kernel
theorem dL_placeIn_3 : decode cL_placeIn 3 = .ok (.iload_n 1, 1) := by decide +kernel
theorem dL_placeIn_4 : decode cL_placeIn 4 = .ok (.iload_n 2, 1) := by decide +kernel
theorem dL_placeIn_5 : decode cL_placeIn 5 = .ok (.invokevirtual 108, 3) := by decide +kernel
theorem dL_placeIn_8 : decode cL_placeIn 8 = .ok (.i2l, 1) := by decide +kernel
theorem dL_placeIn_9 : decode cL_placeIn 9 = .ok (.lastore, 1) := by decide +kernel
theorem dL_placeIn_10 : decode cL_placeIn 10 = .ok (.goto 11, 3) := by decide +kernel
theorem dL_placeIn_13 : decode cL_placeIn 13 = .ok (.astore 4, 2) := by decide +kernel
theorem dL_placeIn_15 : decode cL_placeIn 15 = .ok (.iconst 1, 1) := by decide +kernel
theorem dL_placeIn_16 : decode cL_placeIn 16 = .ok (.ireturn, 1) := by decide +kernel
theorem dL_placeIn_17 : decode cL_placeIn 17 = .ok (.astore 4, 2) := by decide +kernel
theorem dL_placeIn_19 : decode cL_placeIn 19 = .ok (.iconst 2, 1) := by decide +kernel
theorem dL_placeIn_20 : decode cL_placeIn 20 = .ok (.ireturn, 1) := by decide +kernel
theorem dL_placeIn_21 : decode cL_placeIn 21 = .ok (.iconst 0, 1) := by decide +kernel
theorem dL_placeIn_22 : decode cL_placeIn 22 = .ok (.ireturn, 1) := by decide +kernel
theorem dL_drop_0 : decode cL_drop 0 = .ok (.aload_n 2, 1) := by decide +kernel
theorem dL_drop_1 : decode cL_drop 1 = .ok (.iconst 0, 1) := by decide +kernel
theorem dL_drop_2 : decode cL_drop 2 = .ok (.aload_n 0, 1) := by decide +kernel
theorem dL_drop_3 : decode cL_drop 3 = .ok (.iload_n 1, 1) := by decide +kernel
theorem dL_drop_4 : decode cL_drop 4 = .ok (.invokevirtual 111, 3) := by decide +kernel
theorem dL_drop_7 : decode cL_drop 7 = .ok (.i2l, 1) := by decide +kernel
theorem dL_drop_8 : decode cL_drop 8 = .ok (.lastore, 1) := by decide +kernel
theorem dL_drop_9 : decode cL_drop 9 = .ok (.goto 6, 3) := by decide +kernel
theorem dL_drop_12 : decode cL_drop 12 = .ok (.astore_n 3, 1) := by decide +kernel
theorem dL_drop_13 : decode cL_drop 13 = .ok (.iconst 1, 1) := by decide +kernel
theorem dL_drop_14 : decode cL_drop 14 = .ok (.ireturn, 1) := by decide +kernel
theorem dL_drop_15 : decode cL_drop 15 = .ok (.iconst 0, 1) := by decide +kernel
theorem dL_drop_16 : decode cL_drop 16 = .ok (.ireturn, 1) := by decide +kernel
theorem dL_points_0 : decode cL_points 0 = .ok (.aload_n 2, 1) := by decide +kernel
theorem dL_points_1 : decode cL_points 1 = .ok (.iconst 0, 1) := by decide +kernel
theorem dL_points_2 : decode cL_points 2 = .ok (.aload_n 0, 1) := by decide +kernel
theorem dL_points_3 : decode cL_points 3 = .ok (.iload_n 1, 1) := by decide +kernel
theorem dL_points_4 : decode cL_points 4 = .ok (.invokevirtual 114, 3) := by decide +kernel
theorem dL_points_7 : decode cL_points 7 = .ok (.i2l, 1) := by decide +kernel
theorem dL_points_8 : decode cL_points 8 = .ok (.lastore, 1) := by decide +kernel
theorem dL_points_9 : decode cL_points 9 = .ok (.goto 6, 3) := by decide +kernel
theorem dL_points_12 : decode cL_points 12 = .ok (.astore_n 3, 1) := by decide +kernel
theorem dL_points_13 : decode cL_points 13 = .ok (.iconst 1, 1) := by decide +kernel
theorem dL_points_14 : decode cL_points 14 = .ok (.ireturn, 1) := by decide +kernel
theorem dL_points_15 : decode cL_points 15 = .ok (.iconst 0, 1) := by decide +kernel
theorem dL_points_16 : decode cL_points 16 = .ok (.ireturn, 1) := by decide +kernel
theorem dL_wins_0 : decode cL_wins 0 = .ok (.aload_n 2, 1) := by decide +kernel
theorem dL_wins_1 : decode cL_wins 1 = .ok (.iconst 0, 1) := by decide +kernel
theorem dL_wins_2 : decode cL_wins 2 = .ok (.aload_n 0, 1) := by decide +kernel
theorem dL_wins_3 : decode cL_wins 3 = .ok (.iload_n 1, 1) := by decide +kernel
theorem dL_wins_4 : decode cL_wins 4 = .ok (.invokevirtual 117, 3) := by decide +kernel
theorem dL_wins_7 : decode cL_wins 7 = .ok (.i2l, 1) := by decide +kernel
theorem dL_wins_8 : decode cL_wins 8 = .ok (.lastore, 1) := by decide +kernel
theorem dL_wins_9 : decode cL_wins 9 = .ok (.goto 6, 3) := by decide +kernel
theorem dL_wins_12 : decode cL_wins 12 = .ok (.astore_n 3, 1) := by decide +kernel
theorem dL_wins_13 : decode cL_wins 13 = .ok (.iconst 1, 1) := by decide +kernel
theorem dL_wins_14 : decode cL_wins 14 = .ok (.ireturn, 1) := by decide +kernel
theorem dL_wins_15 : decode cL_wins 15 = .ok (.iconst 0, 1) := by decide +kernel
theorem dL_wins_16 : decode cL_wins 16 = .ok (.ireturn, 1) := by decide +kernel
theorem dL_standing_0 : decode cL_standing 0 = .ok (.aload_n 2, 1) := by decide +kernel
theorem dL_standing_1 : decode cL_standing 1 = .ok (.iconst 0, 1) := by decide +kernel
theorem dL_standing_2 : decode cL_standing 2 = .ok (.aload_n 0, 1) := by decide +kernel
theorem dL_standing_3 : decode cL_standing 3 = .ok (.iload_n 1, 1) := by decide +kernel
theorem dL_standing_4 : decode cL_standing 4 = .ok (.invokevirtual 120, 3) := by decide +kernel
theorem dL_standing_7 : decode cL_standing 7 = .ok (.i2l, 1) := by decide +kernel
theorem dL_standing_8 : decode cL_standing 8 = .ok (.lastore, 1) := by decide +kernel
theorem dL_standing_9 : decode cL_standing 9 = .ok (.goto 6, 3) := by decide +kernel
theorem dL_standing_12 : decode cL_standing 12 = .ok (.astore_n 3, 1) := by decide +kernel
theorem dL_standing_13 : decode cL_standing 13 = .ok (.iconst 1, 1) := by decide +kernel
theorem dL_standing_14 : decode cL_standing 14 = .ok (.ireturn, 1) := by decide +kernel
theorem dL_standing_15 : decode cL_standing 15 = .ok (.iconst 0, 1) := by decide +kernel
theorem dL_standing_16 : decode cL_standing 16 = .ok (.ireturn, 1) := by decide +kernel
theorem dL_shareStored_0 : decode cL_shareStored 0 = .ok (.aload_n 1, 1) := by decide +kernel
theorem dL_shareStored_1 : decode cL_shareStored 1 = .ok (.iconst 0, 1) := by decide +kernel
theorem dL_shareStored_2 : decode cL_shareStored 2 = .ok (.aload_n 0, 1) := by decide +kernel
theorem dL_shareStored_3 : decode cL_shareStored 3 = .ok (.invokevirtual 123, 3) := by decide +kernel
theorem dL_shareStored_6 : decode cL_shareStored 6 = .ok (.f2d, 1) := by decide +kernel
theorem dL_shareStored_7 : decode cL_shareStored 7 = .ok (.dastore, 1) := by decide +kernel
theorem dL_shareStored_8 : decode cL_shareStored 8 = .ok (.goto 6, 3) := by decide +kernel
theorem dL_shareStored_11 : decode cL_shareStored 11 = .ok (.astore_n 2, 1) := by decide +kernel
theorem dL_shareStored_12 : decode cL_shareStored 12 = .ok (.iconst 1, 1) := by decide +kernel
theorem dL_shareStored_13 : decode cL_shareStored 13 = .ok (.ireturn, 1) := by decide +kernel
theorem dL_shareStored_14 : decode cL_shareStored 14 = .ok (.iconst 0, 1) := by decide +kernel
theorem dL_shareStored_15 : decode cL_shareStored 15 = .ok (.ireturn, 1) := by decide +kernel
theorem dL_meanTime_0 : decode cL_meanTime 0 = .ok (.aload_n 1, 1) := by decide +kernel
theorem dL_meanTime_1 : decode cL_meanTime 1 = .ok (.iconst 0, 1) := by decide +kernel
theorem dL_meanTime_2 : decode cL_meanTime 2 = .ok (.aload_n 0, 1) := by decide +kernel
theorem dL_meanTime_3 : decode cL_meanTime 3 = .ok (.invokevirtual 127, 3) := by decide +kernel
theorem dL_meanTime_6 : decode cL_meanTime 6 = .ok (.dastore, 1) := by decide +kernel
theorem dL_meanTime_7 : decode cL_meanTime 7 = .ok (.goto 6, 3) := by decide +kernel
theorem dL_meanTime_10 : decode cL_meanTime 10 = .ok (.astore_n 2, 1) := by decide +kernel
theorem dL_meanTime_11 : decode cL_meanTime 11 = .ok (.iconst 1, 1) := by decide +kernel
theorem dL_meanTime_12 : decode cL_meanTime 12 = .ok (.ireturn, 1) := by decide +kernel
theorem dL_meanTime_13 : decode cL_meanTime 13 = .ok (.iconst 0, 1) := by decide +kernel
theorem dL_meanTime_14 : decode cL_meanTime 14 = .ok (.ireturn, 1) := by decide +kernel
