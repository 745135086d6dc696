theorem dX0_init_0 : decode cX0_init 0 = .ok (.aload_n 0, 1) := by decide +kernel
theorem dX0_init_1 : decode cX0_init 1 = .ok (.invokespecial 3, 3) := by decide +kernel
theorem dX0_init_4 : decode cX0_init 4 = .ok (.aload_n 0, 1) := by decide +kernel
theorem dX0_init_5 : decode cX0_init 5 = .ok (.bipush 30, 2) := by decide +kernel
theorem dX0_init_7 : decode cX0_init 7 = .ok (.anewarray 9, 3) := by decide +kernel
theorem dX0_init_10 : decode cX0_init 10 = .ok (.putfield 11, 3) := by decide +kernel
theorem dX0_init_13 : decode cX0_init 13 = .ok (.iconst 0, 1) := by decide +kernel
theorem dX0_init_14 : decode cX0_init 14 = .ok (.istore_n 1, 1) := by decide +kernel
theorem dX0_init_15 : decode cX0_init 15 = .ok (.iload_n 1, 1) := by decide +kernel
theorem dX0_init_16 : decode cX0_init 16 = .ok (.bipush 30, 2) := by decide +kernel
theorem dX0_init_18 : decode cX0_init 18 = .ok (.if_icmp .ge 22, 3) := by decide +kernel
theorem dX0_init_21 : decode cX0_init 21 = .ok (.aload_n 0, 1) := by decide +kernel
theorem dX0_init_22 : decode cX0_init 22 = .ok (.getfield 11, 3) := by decide +kernel
theorem dX0_init_25 : decode cX0_init 25 = .ok (.iload_n 1, 1) := by decide +kernel
theorem dX0_init_26 : decode cX0_init 26 = .ok (.new 9, 3) := by decide +kernel
theorem dX0_init_29 : decode cX0_init 29 = .ok (.dup, 1) := by decide +kernel
theorem dX0_init_30 : decode cX0_init 30 = .ok (.invokespecial 17, 3) := by decide +kernel
theorem dX0_init_33 : decode cX0_init 33 = .ok (.aastore, 1) := by decide +kernel
theorem dX0_init_34 : decode cX0_init 34 = .ok (.iinc 1 1, 3) := by decide +kernel
theorem dX0_init_37 : decode cX0_init 37 = .ok (.goto (-22), 3) := by decide +kernel
theorem dX0_init_40 : decode cX0_init 40 = .ok (.return_, 1) := by decide +kernel
theorem dX0_has_0 : decode cX0_has 0 = .ok (.iload_n 1, 1) := by decide +kernel
theorem dX0_has_1 : decode cX0_has 1 = .ok (.ifCond .lt 15, 3) := by decide +kernel
theorem dX0_has_4 : decode cX0_has 4 = .ok (.iload_n 1, 1) := by decide +kernel
theorem dX0_has_5 : decode cX0_has 5 = .ok (.aload_n 0, 1) := by decide +kernel
theorem dX0_has_6 : decode cX0_has 6 = .ok (.getfield 18, 3) := by decide +kernel
theorem dX0_has_9 : decode cX0_has 9 = .ok (.if_icmp .ge 7, 3) := by decide +kernel
theorem dX0_has_12 : decode cX0_has 12 = .ok (.iconst 1, 1) := by decide +kernel
theorem dX0_has_13 : decode cX0_has 13 = .ok (.goto 4, 3) := by decide +kernel
theorem dX0_has_16 : decode cX0_has 16 = .ok (.iconst 0, 1) := by decide +kernel
theorem dX0_has_17 : decode cX0_has 17 = .ok (.ireturn, 1) := by decide +kernel
theorem dX0_hasGhost_0 : decode cX0_hasGhost 0 = .ok (.aload_n 0, 1) := by decide +kernel
theorem dX0_hasGhost_1 : decode cX0_hasGhost 1 = .ok (.iload_n 1, 1) := by decide +kernel
theorem dX0_hasGhost_2 : decode cX0_hasGhost 2 = .ok (.invokevirtual 22, 3) := by decide +kernel
theorem dX0_hasGhost_5 : decode cX0_hasGhost 5 = .ok (.ifCond .eq 32, 3) := by decide +kernel
theorem dX0_hasGhost_8 : decode cX0_hasGhost 8 = .ok (.aload_n 0, 1) := by decide +kernel
theorem dX0_hasGhost_9 : decode cX0_hasGhost 9 = .ok (.getfield 11, 3) := by decide +kernel
theorem dX0_hasGhost_12 : decode cX0_hasGhost 12 = .ok (.iload_n 1, 1) := by decide +kernel
theorem dX0_hasGhost_13 : decode cX0_hasGhost 13 = .ok (.aaload, 1) := by decide +kernel
theorem dX0_hasGhost_14 : decode cX0_hasGhost 14 = .ok (.getfield 26, 3) := by decide +kernel
theorem dX0_hasGhost_17 : decode cX0_hasGhost 17 = .ok (.iload_n 2, 1) := by decide +kernel
theorem dX0_hasGhost_18 : decode cX0_hasGhost 18 = .ok (.if_icmp .ne 19, 3) := by decide +kernel
theorem dX0_hasGhost_21 : decode cX0_hasGhost 21 = .ok (.aload_n 0, 1) := by decide +kernel
theorem dX0_hasGhost_22 : decode cX0_hasGhost 22 = .ok (.getfield 11, 3) := by decide +kernel
theorem dX0_hasGhost_25 : decode cX0_hasGhost 25 = .ok (.iload_n 1, 1) := by decide +kernel
theorem dX0_hasGhost_26 : decode cX0_hasGhost 26 = .ok (.aaload, 1) := by decide +kernel
theorem dX0_hasGhost_27 : decode cX0_hasGhost 27 = .ok (.getfield 29, 3) := by decide +kernel
theorem dX0_hasGhost_30 : decode cX0_hasGhost 30 = .ok (.ifCond .eq 7, 3) := by decide +kernel
theorem dX0_hasGhost_33 : decode cX0_hasGhost 33 = .ok (.iconst 1, 1) := by decide +kernel
theorem dX0_hasGhost_34 : decode cX0_hasGhost 34 = .ok (.goto 4, 3) := by decide +kernel
theorem dX0_hasGhost_37 : decode cX0_hasGhost 37 = .ok (.iconst 0, 1) := by decide +kernel
theorem dX0_hasGhost_38 : decode cX0_hasGhost 38 = .ok (.ireturn, 1) := by decide +kernel
theorem dX0_add_0 : decode cX0_add 0 = .ok (.aload_n 0, 1) := by decide +kernel
theorem dX0_add_1 : decode cX0_add 1 = .ok (.aload_n 1, 1) := by decide +kernel
theorem dX0_add_2 : decode cX0_add 2 = .ok (.getfield 33, 3) := by decide +kernel
theorem dX0_add_5 : decode cX0_add 5 = .ok (.invokevirtual 22, 3) := by decide +kernel
theorem dX0_add_8 : decode cX0_add 8 = .ok (.ifCond .eq 19, 3) := by decide +kernel
theorem dX0_add_11 : decode cX0_add 11 = .ok (.aload_n 0, 1) := by decide +kernel
theorem dX0_add_12 : decode cX0_add 12 = .ok (.getfield 11, 3) := by decide +kernel
theorem dX0_add_15 : decode cX0_add 15 = .ok (.aload_n 1, 1) := by decide +kernel
theorem dX0_add_16 : decode cX0_add 16 = .ok (.getfield 33, 3) := by decide +kernel
theorem dX0_add_19 : decode cX0_add 19 = .ok (.aaload, 1) := by decide +kernel
theorem dX0_add_20 : decode cX0_add 20 = .ok (.getfield 36, 3) := by decide +kernel
theorem dX0_add_23 : decode cX0_add 23 = .ok (.iconst 5, 1) := by decide +kernel
theorem dX0_add_24 : decode cX0_add 24 = .ok (.if_icmp .lt 7, 3) := by decide +kernel
theorem dX0_add_27 : decode cX0_add 27 = .ok (.iconst 1, 1) := by decide +kernel
theorem dX0_add_28 : decode cX0_add 28 = .ok (.goto 4, 3) := by decide +kernel
theorem dX0_add_31 : decode cX0_add 31 = .ok (.iconst 0, 1) := by decide +kernel
theorem dX0_add_32 : decode cX0_add 32 = .ok (.istore_n 2, 1) := by decide +kernel
theorem dX0_add_33 : decode cX0_add 33 = .ok (.aload_n 0, 1) := by decide +kernel
theorem dX0_add_34 : decode cX0_add 34 = .ok (.aload_n 1, 1) := by decide +kernel
theorem dX0_add_35 : decode cX0_add 35 = .ok (.iload_n 2, 1) := by decide +kernel
theorem dX0_add_36 : decode cX0_add 36 = .ok (.ifCond .eq 7, 3) := by decide +kernel
theorem dX0_add_39 : decode cX0_add 39 = .ok (.iconst (-1), 1) := by decide +kernel
theorem dX0_add_40 : decode cX0_add 40 = .ok (.goto 7, 3) := by decide +kernel
theorem dX0_add_43 : decode cX0_add 43 = .ok (.aload_n 1, 1) := by decide +kernel
theorem dX0_add_44 : decode cX0_add 44 = .ok (.getfield 33, 3) := by decide +kernel
theorem dX0_add_47 : decode cX0_add 47 = .ok (.invokevirtual 39, 3) := by decide +kernel
theorem dX0_add_50 : decode cX0_add 50 = .ok (.aload_n 0, 1) := by decide +kernel
theorem dX0_add_51 : decode cX0_add 51 = .ok (.aload_n 1, 1) := by decide +kernel
theorem dX0_add_52 : decode cX0_add 52 = .ok (.invokevirtual 43, 3) := by decide +kernel
theorem dX0_add_55 : decode cX0_add 55 = .ok (.aload_n 0, 1) := by decide +kernel
theorem dX0_add_56 : decode cX0_add 56 = .ok (.dup, 1) := by decide +kernel
theorem dX0_add_57 : decode cX0_add 57 = .ok (.getfield 18, 3) := by decide +kernel
theorem dX0_add_60 : decode cX0_add 60 = .ok (.iconst 1, 1) := by decide +kernel
theorem dX0_add_61 : decode cX0_add 61 = .ok (.iadd, 1) := by decide +kernel
theorem dX0_add_62 : decode cX0_add 62 = .ok (.putfield 18, 3) := by decide +kernel
theorem dX0_add_65 : decode cX0_add 65 = .ok (.return_, 1) := by decide +kernel
theorem dX0_store_0 : decode cX0_store 0 = .ok (.aload_n 1, 1) := by decide +kernel
theorem dX0_store_1 : decode cX0_store 1 = .ok (.iload_n 2, 1) := by decide +kernel
theorem dX0_store_2 : decode cX0_store 2 = .ok (.putfield 47, 3) := by decide +kernel
theorem dX0_store_5 : decode cX0_store 5 = .ok (.aload_n 1, 1) := by decide +kernel
theorem dX0_store_6 : decode cX0_store 6 = .ok (.aload_n 0, 1) := by decide +kernel
theorem dX0_store_7 : decode cX0_store 7 = .ok (.iload_n 2, 1) := by decide +kernel
theorem dX0_store_8 : decode cX0_store 8 = .ok (.invokevirtual 22, 3) := by decide +kernel
theorem dX0_store_11 : decode cX0_store 11 = .ok (.ifCond .eq 16, 3) := by decide +kernel
theorem dX0_store_14 : decode cX0_store 14 = .ok (.aload_n 1, 1) := by decide +kernel
theorem dX0_store_15 : decode cX0_store 15 = .ok (.aload_n 0, 1) := by decide +kernel
theorem dX0_store_16 : decode cX0_store 16 = .ok (.getfield 11, 3) := by decide +kernel
theorem dX0_store_19 : decode cX0_store 19 = .ok (.iload_n 2, 1) := by decide +kernel
theorem dX0_store_20 : decode cX0_store 20 = .ok (.aaload, 1) := by decide +kernel
theorem dX0_store_21 : decode cX0_store 21 = .ok (.invokevirtual 50, 3) := by decide +kernel
theorem dX0_store_24 : decode cX0_store 24 = .ok (.goto 7, 3) := by decide +kernel
theorem dX0_store_27 : decode cX0_store 27 = .ok (.aload_n 1, 1) := by decide +kernel
theorem dX0_store_28 : decode cX0_store 28 = .ok (.getfield 54, 3) := by decide +kernel
theorem dX0_store_31 : decode cX0_store 31 = .ok (.putfield 57, 3) := by decide +kernel
theorem dX0_store_34 : decode cX0_store 34 = .ok (.return_, 1) := by decide +kernel
theorem dX0_settleDepth_0 : decode cX0_settleDepth 0 = .ok (.aload_n 1, 1) := by decide +kernel
theorem dX0_settleDepth_1 : decode cX0_settleDepth 1 = .ok (.aload_n 0, 1) := by decide +kernel
theorem dX0_settleDepth_2 : decode cX0_settleDepth 2 = .ok (.aload_n 1, 1) := by decide +kernel
theorem dX0_settleDepth_3 : decode cX0_settleDepth 3 = .ok (.getfield 47, 3) := by decide +kernel
theorem dX0_settleDepth_6 : decode cX0_settleDepth 6 = .ok (.invokevirtual 22, 3) := by decide +kernel
theorem dX0_settleDepth_9 : decode cX0_settleDepth 9 = .ok (.ifCond .eq 20, 3) := by decide +kernel
theorem dX0_settleDepth_12 : decode cX0_settleDepth 12 = .ok (.aload_n 0, 1) := by decide +kernel
theorem dX0_settleDepth_13 : decode cX0_settleDepth 13 = .ok (.getfield 11, 3) := by decide +kernel
theorem dX0_settleDepth_16 : decode cX0_settleDepth 16 = .ok (.aload_n 1, 1) := by decide +kernel
theorem dX0_settleDepth_17 : decode cX0_settleDepth 17 = .ok (.getfield 47, 3) := by decide +kernel
theorem dX0_settleDepth_20 : decode cX0_settleDepth 20 = .ok (.aaload, 1) := by decide +kernel
theorem dX0_settleDepth_21 : decode cX0_settleDepth 21 = .ok (.getfield 36, 3) := by decide +kernel
theorem dX0_settleDepth_24 : decode cX0_settleDepth 24 = .ok (.iconst 1, 1) := by decide +kernel
theorem dX0_settleDepth_25 : decode cX0_settleDepth 25 = .ok (.iadd, 1) := by decide +kernel
theorem dX0_settleDepth_26 : decode cX0_settleDepth 26 = .ok (.goto 4, 3) := by decide +kernel
theorem dX0_settleDepth_29 : decode cX0_settleDepth 29 = .ok (.iconst 0, 1) := by decide +kernel
theorem dX0_settleDepth_30 : decode cX0_settleDepth 30 = .ok (.putfield 36, 3) := by decide +kernel
theorem dX0_settleDepth_33 : decode cX0_settleDepth 33 = .ok (.return_, 1) := by decide +kernel
theorem dX0_moveFrom_0 : decode cX0_moveFrom 0 = .ok (.iconst 0, 1) := by decide +kernel
theorem dX0_moveFrom_1 : decode cX0_moveFrom 1 = .ok (.istore_n 3, 1) := by decide +kernel
theorem dX0_moveFrom_2 : decode cX0_moveFrom 2 = .ok (.iconst 0, 1) := by decide +kernel
theorem dX0_moveFrom_3 : decode cX0_moveFrom 3 = .ok (.istore 4, 2) := by decide +kernel
theorem dX0_moveFrom_5 : decode cX0_moveFrom 5 = .ok (.iload 4, 2) := by decide +kernel
theorem dX0_moveFrom_7 : decode cX0_moveFrom 7 = .ok (.aload_n 0, 1) := by decide +kernel
theorem dX0_moveFrom_8 : decode cX0_moveFrom 8 = .ok (.getfield 18, 3) := by decide +kernel
theorem dX0_moveFrom_11 : decode cX0_moveFrom 11 = .ok (.if_icmp .ge 49, 3) := by decide +kernel
theorem dX0_moveFrom_14 : decode cX0_moveFrom 14 = .ok (.aload_n 0, 1) := by decide +kernel
theorem dX0_moveFrom_15 : decode cX0_moveFrom 15 = .ok (.getfield 11, 3) := by decide +kernel
theorem dX0_moveFrom_18 : decode cX0_moveFrom 18 = .ok (.iload 4, 2) := by decide +kernel
theorem dX0_moveFrom_20 : decode cX0_moveFrom 20 = .ok (.aaload, 1) := by decide +kernel
theorem dX0_moveFrom_21 : decode cX0_moveFrom 21 = .ok (.getfield 47, 3) := by decide +kernel
theorem dX0_moveFrom_24 : decode cX0_moveFrom 24 = .ok (.iload_n 1, 1) := by decide +kernel
theorem dX0_moveFrom_25 : decode cX0_moveFrom 25 = .ok (.if_icmp .ne 18, 3) := by decide +kernel
theorem dX0_moveFrom_28 : decode cX0_moveFrom 28 = .ok (.aload_n 0, 1) := by decide +kernel
theorem dX0_moveFrom_29 : decode cX0_moveFrom 29 = .ok (.aload_n 0, 1) := by decide +kernel
theorem dX0_moveFrom_30 : decode cX0_moveFrom 30 = .ok (.getfield 11, 3) := by decide +kernel
theorem dX0_moveFrom_33 : decode cX0_moveFrom 33 = .ok (.iload 4, 2) := by decide +kernel
theorem dX0_moveFrom_35 : decode cX0_moveFrom 35 = .ok (.aaload, 1) := by decide +kernel
theorem dX0_moveFrom_36 : decode cX0_moveFrom 36 = .ok (.iload_n 2, 1) := by decide +kernel
theorem dX0_moveFrom_37 : decode cX0_moveFrom 37 = .ok (.invokevirtual 39, 3) := by decide +kernel
theorem dX0_moveFrom_40 : decode cX0_moveFrom 40 = .ok (.iinc 3 1, 3) := by decide +kernel
theorem dX0_moveFrom_43 : decode cX0_moveFrom 43 = .ok (.aload_n 0, 1) := by decide +kernel
theorem dX0_moveFrom_44 : decode cX0_moveFrom 44 = .ok (.aload_n 0, 1) := by decide +kernel
theorem dX0_moveFrom_45 : decode cX0_moveFrom 45 = .ok (.getfield 11, 3) := by decide +kernel
theorem dX0_moveFrom_48 : decode cX0_moveFrom 48 = .ok (.iload 4, 2) := by decide +kernel
theorem dX0_moveFrom_50 : decode cX0_moveFrom 50 = .ok (.aaload, 1) := by decide +kernel
theorem dX0_moveFrom_51 : decode cX0_moveFrom 51 = .ok (.invokevirtual 43, 3) := by decide +kernel
theorem dX0_moveFrom_54 : decode cX0_moveFrom 54 = .ok (.iinc 4 1, 3) := by decide +kernel
theorem dX0_moveFrom_57 : decode cX0_moveFrom 57 = .ok (.goto (-52), 3) := by decide +kernel
theorem dX0_moveFrom_60 : decode cX0_moveFrom 60 = .ok (.iload_n 3, 1) := by decide +kernel
theorem dX0_moveFrom_61 : decode cX0_moveFrom 61 = .ok (.ireturn, 1) := by decide +kernel
theorem dX0_countResting_0 : decode cX0_countResting 0 = .ok (.iconst 0, 1) := by decide +kernel
theorem dX0_countResting_1 : decode cX0_countResting 1 = .ok (.istore_n 2, 1) := by decide +kernel
theorem dX0_countResting_2 : decode cX0_countResting 2 = .ok (.iload_n 1, 1) := by decide +kernel
theorem dX0_countResting_3 : decode cX0_countResting 3 = .ok (.iconst 1, 1) := by decide +kernel
theorem dX0_countResting_4 : decode cX0_countResting 4 = .ok (.iadd, 1) := by decide +kernel
theorem dX0_countResting_5 : decode cX0_countResting 5 = .ok (.istore_n 3, 1) := by decide +kernel
theorem dX0_countResting_6 : decode cX0_countResting 6 = .ok (.iload_n 3, 1) := by decide +kernel
theorem dX0_countResting_7 : decode cX0_countResting 7 = .ok (.aload_n 0, 1) := by decide +kernel
theorem dX0_countResting_8 : decode cX0_countResting 8 = .ok (.getfield 18, 3) := by decide +kernel
theorem dX0_countResting_11 : decode cX0_countResting 11 = .ok (.if_icmp .ge 21, 3) := by decide +kernel
theorem dX0_countResting_14 : decode cX0_countResting 14 = .ok (.aload_n 0, 1) := by decide +kernel
theorem dX0_countResting_15 : decode cX0_countResting 15 = .ok (.iload_n 3, 1) := by decide +kernel
theorem dX0_countResting_16 : decode cX0_countResting 16 = .ok (.iload_n 1, 1) := by decide +kernel
theorem dX0_countResting_17 : decode cX0_countResting 17 = .ok (.invokevirtual 60, 3) := by decide +kernel
theorem dX0_countResting_20 : decode cX0_countResting 20 = .ok (.ifCond .eq 6, 3) := by decide +kernel
theorem dX0_countResting_23 : decode cX0_countResting 23 = .ok (.iinc 2 1, 3) := by decide +kernel
theorem dX0_countResting_26 : decode cX0_countResting 26 = .ok (.iinc 3 1, 3) := by decide +kernel
theorem dX0_countResting_29 : decode cX0_countResting 29 = .ok (.goto (-23), 3) := by decide +kernel
theorem dX0_countResting_32 : decode cX0_countResting 32 = .ok (.iload_n 2, 1) := by decide +kernel
theorem dX0_countResting_33 : decode cX0_countResting 33 = .ok (.ireturn, 1) := by decide +kernel
theorem dX0_restsOn_0 : decode cX0_restsOn 0 = .ok (.iload_n 1, 1) := by decide +kernel
theorem dX0_restsOn_1 : decode cX0_restsOn 1 = .ok (.istore_n 3, 1) := by decide +kernel
theorem dX0_restsOn_2 : decode cX0_restsOn 2 = .ok (.iconst 0, 1) := by decide +kernel
theorem dX0_restsOn_3 : decode cX0_restsOn 3 = .ok (.istore 4, 2) := by decide +kernel
theorem dX0_restsOn_5 : decode cX0_restsOn 5 = .ok (.iload 4, 2) := by decide +kernel
theorem dX0_restsOn_7 : decode cX0_restsOn 7 = .ok (.iconst 5, 1) := by decide +kernel
theorem dX0_restsOn_8 : decode cX0_restsOn 8 = .ok (.if_icmp .ge 32, 3) := by decide +kernel
theorem dX0_restsOn_11 : decode cX0_restsOn 11 = .ok (.aload_n 0, 1) := by decide +kernel
theorem dX0_restsOn_12 : decode cX0_restsOn 12 = .ok (.iload_n 3, 1) := by decide +kernel
theorem dX0_restsOn_13 : decode cX0_restsOn 13 = .ok (.invokevirtual 22, 3) := by decide +kernel
theorem dX0_restsOn_16 : decode cX0_restsOn 16 = .ok (.ifCond .eq 24, 3) := by decide +kernel
theorem dX0_restsOn_19 : decode cX0_restsOn 19 = .ok (.iload_n 3, 1) := by decide +kernel
theorem dX0_restsOn_20 : decode cX0_restsOn 20 = .ok (.iload_n 2, 1) := by decide +kernel
theorem dX0_restsOn_21 : decode cX0_restsOn 21 = .ok (.if_icmp .eq 19, 3) := by decide +kernel
theorem dX0_restsOn_24 : decode cX0_restsOn 24 = .ok (.aload_n 0, 1) := by decide +kernel
theorem dX0_restsOn_25 : decode cX0_restsOn 25 = .ok (.getfield 11, 3) := by decide +kernel
theorem dX0_restsOn_28 : decode cX0_restsOn 28 = .ok (.iload_n 3, 1) := by decide +kernel
theorem dX0_restsOn_29 : decode cX0_restsOn 29 = .ok (.aaload, 1) := by decide +kernel
theorem dX0_restsOn_30 : decode cX0_restsOn 30 = .ok (.getfield 47, 3) := by decide +kernel
theorem dX0_restsOn_33 : decode cX0_restsOn 33 = .ok (.istore_n 3, 1) := by decide +kernel
theorem dX0_restsOn_34 : decode cX0_restsOn 34 = .ok (.iinc 4 1, 3) := by decide +kernel
theorem dX0_restsOn_37 : decode cX0_restsOn 37 = .ok (.goto (-32), 3) := by decide +kernel
theorem dX0_restsOn_40 : decode cX0_restsOn 40 = .ok (.iload_n 3, 1) := by decide +kernel
theorem dX0_restsOn_41 : decode cX0_restsOn 41 = .ok (.iload_n 2, 1) := by decide +kernel
theorem dX0_restsOn_42 : decode cX0_restsOn 42 = .ok (.if_icmp .ne 7, 3) := by decide +kernel
theorem dX0_restsOn_45 : decode cX0_restsOn 45 = .ok (.iconst 1, 1) := by decide +kernel
theorem dX0_restsOn_46 : decode cX0_restsOn 46 = .ok (.goto 4, 3) := by decide +kernel
theorem dX0_restsOn_49 : decode cX0_restsOn 49 = .ok (.iconst 0, 1) := by decide +kernel
theorem dX0_restsOn_50 : decode cX0_restsOn 50 = .ok (.ireturn, 1) := by decide +kernel
theorem dX0_countStanding_0 : decode cX0_countStanding 0 = .ok (.iconst 0, 1) := by decide +kernel
theorem dX0_countStanding_1 : decode cX0_countStanding 1 = .ok (.istore_n 1, 1) := by decide +kernel
theorem dX0_countStanding_2 : decode cX0_countStanding 2 = .ok (.iconst 0, 1) := by decide +kernel
theorem dX0_countStanding_3 : decode cX0_countStanding 3 = .ok (.istore_n 2, 1) := by decide +kernel
theorem dX0_countStanding_4 : decode cX0_countStanding 4 = .ok (.iload_n 2, 1) := by decide +kernel
theorem dX0_countStanding_5 : decode cX0_countStanding 5 = .ok (.aload_n 0, 1) := by decide +kernel
theorem dX0_countStanding_6 : decode cX0_countStanding 6 = .ok (.getfield 18, 3) := by decide +kernel
theorem dX0_countStanding_9 : decode cX0_countStanding 9 = .ok (.if_icmp .ge 24, 3) := by decide +kernel
theorem dX0_countStanding_12 : decode cX0_countStanding 12 = .ok (.aload_n 0, 1) := by decide +kernel
theorem dX0_countStanding_13 : decode cX0_countStanding 13 = .ok (.getfield 11, 3) := by decide +kernel
theorem dX0_countStanding_16 : decode cX0_countStanding 16 = .ok (.iload_n 2, 1) := by decide +kernel
theorem dX0_countStanding_17 : decode cX0_countStanding 17 = .ok (.aaload, 1) := by decide +kernel
theorem dX0_countStanding_18 : decode cX0_countStanding 18 = .ok (.getfield 29, 3) := by decide +kernel
theorem dX0_countStanding_21 : decode cX0_countStanding 21 = .ok (.ifCond .eq 6, 3) := by decide +kernel
theorem dX0_countStanding_24 : decode cX0_countStanding 24 = .ok (.iinc 1 1, 3) := by decide +kernel
theorem dX0_countStanding_27 : decode cX0_countStanding 27 = .ok (.iinc 2 1, 3) := by decide +kernel
theorem dX0_countStanding_30 : decode cX0_countStanding 30 = .ok (.goto (-26), 3) := by decide +kernel
theorem dX0_countStanding_33 : decode cX0_countStanding 33 = .ok (.iload_n 1, 1) := by decide +kernel
theorem dX0_countStanding_34 : decode cX0_countStanding 34 = .ok (.ireturn, 1) := by decide +kernel
theorem dX0_leastOn_0 : decode cX0_leastOn 0 = .ok (.iconst (-1), 1) := by decide +kernel
theorem dX0_leastOn_1 : decode cX0_leastOn 1 = .ok (.istore_n 2, 1) := by decide +kernel
theorem dX0_leastOn_2 : decode cX0_leastOn 2 = .ok (.iconst 0, 1) := by decide +kernel
theorem dX0_leastOn_3 : decode cX0_leastOn 3 = .ok (.istore_n 3, 1) := by decide +kernel
theorem dX0_leastOn_4 : decode cX0_leastOn 4 = .ok (.iload_n 3, 1) := by decide +kernel
theorem dX0_leastOn_5 : decode cX0_leastOn 5 = .ok (.aload_n 0, 1) := by decide +kernel
theorem dX0_leastOn_6 : decode cX0_leastOn 6 = .ok (.getfield 18, 3) := by decide +kernel
theorem dX0_leastOn_9 : decode cX0_leastOn 9 = .ok (.if_icmp .ge 45, 3) := by decide +kernel
theorem dX0_leastOn_12 : decode cX0_leastOn 12 = .ok (.aload_n 0, 1) := by decide +kernel
theorem dX0_leastOn_13 : decode cX0_leastOn 13 = .ok (.getfield 11, 3) := by decide +kernel
theorem dX0_leastOn_16 : decode cX0_leastOn 16 = .ok (.iload_n 3, 1) := by decide +kernel
theorem dX0_leastOn_17 : decode cX0_leastOn 17 = .ok (.aaload, 1) := by decide +kernel
theorem dX0_leastOn_18 : decode cX0_leastOn 18 = .ok (.getfield 29, 3) := by decide +kernel
theorem dX0_leastOn_21 : decode cX0_leastOn 21 = .ok (.ifCond .eq 27, 3) := by decide +kernel
theorem dX0_leastOn_24 : decode cX0_leastOn 24 = .ok (.aload_n 0, 1) := by decide +kernel
theorem dX0_leastOn_25 : decode cX0_leastOn 25 = .ok (.getfield 11, 3) := by decide +kernel
theorem dX0_leastOn_28 : decode cX0_leastOn 28 = .ok (.iload_n 3, 1) := by decide +kernel
theorem dX0_leastOn_29 : decode cX0_leastOn 29 = .ok (.aaload, 1) := by decide +kernel
theorem dX0_leastOn_30 : decode cX0_leastOn 30 = .ok (.getfield 26, 3) := by decide +kernel
theorem dX0_leastOn_33 : decode cX0_leastOn 33 = .ok (.iload_n 1, 1) := by decide +kernel
theorem dX0_leastOn_34 : decode cX0_leastOn 34 = .ok (.if_icmp .ne 14, 3) := by decide +kernel
theorem dX0_leastOn_37 : decode cX0_leastOn 37 = .ok (.aload_n 0, 1) := by decide +kernel
theorem dX0_leastOn_38 : decode cX0_leastOn 38 = .ok (.iload_n 3, 1) := by decide +kernel
theorem dX0_leastOn_39 : decode cX0_leastOn 39 = .ok (.iload_n 2, 1) := by decide +kernel
theorem dX0_leastOn_40 : decode cX0_leastOn 40 = .ok (.invokevirtual 64, 3) := by decide +kernel
theorem dX0_leastOn_43 : decode cX0_leastOn 43 = .ok (.ifCond .eq 5, 3) := by decide +kernel
theorem dX0_leastOn_46 : decode cX0_leastOn 46 = .ok (.iload_n 3, 1) := by decide +kernel
theorem dX0_leastOn_47 : decode cX0_leastOn 47 = .ok (.istore_n 2, 1) := by decide +kernel
theorem dX0_leastOn_48 : decode cX0_leastOn 48 = .ok (.iinc 3 1, 3) := by decide +kernel
theorem dX0_leastOn_51 : decode cX0_leastOn 51 = .ok (.goto (-47), 3) := by decide +kernel
theorem dX0_leastOn_54 : decode cX0_leastOn 54 = .ok (.iload_n 2, 1) := by decide +kernel
theorem dX0_leastOn_55 : decode cX0_leastOn 55 = .ok (.ireturn, 1) := by decide +kernel
theorem dX0_isAhead_0 : decode cX0_isAhead 0 = .ok (.aload_n 0, 1) := by decide +kernel
theorem dX0_isAhead_1 : decode cX0_isAhead 1 = .ok (.iload_n 1, 1) := by decide +kernel
theorem dX0_isAhead_2 : decode cX0_isAhead 2 = .ok (.invokevirtual 22, 3) := by decide +kernel
theorem dX0_isAhead_5 : decode cX0_isAhead 5 = .ok (.ifCond .eq 11, 3) := by decide +kernel
theorem dX0_isAhead_8 : decode cX0_isAhead 8 = .ok (.aload_n 0, 1) := by decide +kernel
theorem dX0_isAhead_9 : decode cX0_isAhead 9 = .ok (.iload_n 2, 1) := by decide +kernel
theorem dX0_isAhead_10 : decode cX0_isAhead 10 = .ok (.invokevirtual 22, 3) := by decide +kernel
theorem dX0_isAhead_13 : decode cX0_isAhead 13 = .ok (.ifCond .ne 9, 3) := by decide +kernel
theorem dX0_isAhead_16 : decode cX0_isAhead 16 = .ok (.aload_n 0, 1) := by decide +kernel
theorem dX0_isAhead_17 : decode cX0_isAhead 17 = .ok (.iload_n 1, 1) := by decide +kernel
theorem dX0_isAhead_18 : decode cX0_isAhead 18 = .ok (.invokevirtual 22, 3) := by decide +kernel
theorem dX0_isAhead_21 : decode cX0_isAhead 21 = .ok (.ireturn, 1) := by decide +kernel
theorem dX0_isAhead_22 : decode cX0_isAhead 22 = .ok (.aload_n 0, 1) := by decide +kernel
theorem dX0_isAhead_23 : decode cX0_isAhead 23 = .ok (.getfield 11, 3) := by decide +kernel
theorem dX0_isAhead_26 : decode cX0_isAhead 26 = .ok (.iload_n 1, 1) := by decide +kernel
theorem dX0_isAhead_27 : decode cX0_isAhead 27 = .ok (.aaload, 1) := by decide +kernel
theorem dX0_isAhead_28 : decode cX0_isAhead 28 = .ok (.invokevirtual 67, 3) := by decide +kernel
theorem dX0_isAhead_31 : decode cX0_isAhead 31 = .ok (.istore_n 3, 1) := by decide +kernel
theorem dX0_isAhead_32 : decode cX0_isAhead 32 = .ok (.aload_n 0, 1) := by decide +kernel
theorem dX0_isAhead_33 : decode cX0_isAhead 33 = .ok (.getfield 11, 3) := by decide +kernel
theorem dX0_isAhead_36 : decode cX0_isAhead 36 = .ok (.iload_n 2, 1) := by decide +kernel
theorem dX0_isAhead_37 : decode cX0_isAhead 37 = .ok (.aaload, 1) := by decide +kernel
theorem dX0_isAhead_38 : decode cX0_isAhead 38 = .ok (.invokevirtual 67, 3) := by decide +kernel
theorem dX0_isAhead_41 : decode cX0_isAhead 41 = .ok (.istore 4, 2) := by decide +kernel
theorem dX0_isAhead_43 : decode cX0_isAhead 43 = .ok (.iload_n 3, 1) := by decide +kernel
theorem dX0_isAhead_44 : decode cX0_isAhead 44 = .ok (.iload 4, 2) := by decide +kernel
theorem dX0_isAhead_46 : decode cX0_isAhead 46 = .ok (.if_icmp .lt 14, 3) := by decide +kernel
theorem dX0_isAhead_49 : decode cX0_isAhead 49 = .ok (.iload_n 3, 1) := by decide +kernel
theorem dX0_isAhead_50 : decode cX0_isAhead 50 = .ok (.iload 4, 2) := by decide +kernel
theorem dX0_isAhead_52 : decode cX0_isAhead 52 = .ok (.if_icmp .ne 12, 3) := by decide +kernel
theorem dX0_isAhead_55 : decode cX0_isAhead 55 = .ok (.iload_n 1, 1) := by decide +kernel
theorem dX0_isAhead_56 : decode cX0_isAhead 56 = .ok (.iload_n 2, 1) := by decide +kernel
theorem dX0_isAhead_57 : decode cX0_isAhead 57 = .ok (.if_icmp .ge 7, 3) := by decide +kernel
theorem dX0_isAhead_60 : decode cX0_isAhead 60 = .ok (.iconst 1, 1) := by decide +kernel
theorem dX0_isAhead_61 : decode cX0_isAhead 61 = .ok (.goto 4, 3) := by decide +kernel
theorem dX0_isAhead_64 : decode cX0_isAhead 64 = .ok (.iconst 0, 1) := by decide +kernel
theorem dX0_isAhead_65 : decode cX0_isAhead 65 = .ok (.ireturn, 1) := by decide +kernel
theorem dX1_init_0 : decode cX1_init 0 = .ok (.aload_n 0, 1) := by decide +kernel
theorem dX1_init_1 : decode cX1_init 1 = .ok (.invokespecial 1, 3) := by decide +kernel
theorem dX1_init_4 : decode cX1_init 4 = .ok (.return_, 1) := by decide +kernel
theorem dX1_speedAfter_0 : decode cX1_speedAfter 0 = .ok (.iload_n 2, 1) := by decide +kernel
theorem dX1_speedAfter_1 : decode cX1_speedAfter 1 = .ok (.bipush 43, 2) := by decide +kernel
theorem dX1_speedAfter_3 : decode cX1_speedAfter 3 = .ok (.if_icmp .ne 17, 3) := by decide +kernel
theorem dX1_speedAfter_6 : decode cX1_speedAfter 6 = .ok (.aload_n 0, 1) := by decide +kernel
theorem dX1_speedAfter_7 : decode cX1_speedAfter 7 = .ok (.getfield 7, 3) := by decide +kernel
theorem dX1_speedAfter_10 : decode cX1_speedAfter 10 = .ok (.iload_n 1, 1) := by decide +kernel
theorem dX1_speedAfter_11 : decode cX1_speedAfter 11 = .ok (.aload_n 0, 1) := by decide +kernel
theorem dX1_speedAfter_12 : decode cX1_speedAfter 12 = .ok (.getfield 13, 3) := by decide +kernel
theorem dX1_speedAfter_15 : decode cX1_speedAfter 15 = .ok (.iadd, 1) := by decide +kernel
theorem dX1_speedAfter_16 : decode cX1_speedAfter 16 = .ok (.invokestatic 16, 3) := by decide +kernel
theorem dX1_speedAfter_19 : decode cX1_speedAfter 19 = .ok (.ireturn, 1) := by decide +kernel
theorem dX1_speedAfter_20 : decode cX1_speedAfter 20 = .ok (.iload_n 2, 1) := by decide +kernel
theorem dX1_speedAfter_21 : decode cX1_speedAfter 21 = .ok (.bipush 45, 2) := by decide +kernel
theorem dX1_speedAfter_23 : decode cX1_speedAfter 23 = .ok (.if_icmp .ne 14, 3) := by decide +kernel
theorem dX1_speedAfter_26 : decode cX1_speedAfter 26 = .ok (.iconst 0, 1) := by decide +kernel
theorem dX1_speedAfter_27 : decode cX1_speedAfter 27 = .ok (.iload_n 1, 1) := by decide +kernel
theorem dX1_speedAfter_28 : decode cX1_speedAfter 28 = .ok (.aload_n 0, 1) := by decide +kernel
theorem dX1_speedAfter_29 : decode cX1_speedAfter 29 = .ok (.getfield 13, 3) := by decide +kernel
theorem dX1_speedAfter_32 : decode cX1_speedAfter 32 = .ok (.isub, 1) := by decide +kernel
theorem dX1_speedAfter_33 : decode cX1_speedAfter 33 = .ok (.invokestatic 22, 3) := by decide +kernel
theorem dX1_speedAfter_36 : decode cX1_speedAfter 36 = .ok (.ireturn, 1) := by decide +kernel
theorem dX1_speedAfter_37 : decode cX1_speedAfter 37 = .ok (.iload_n 1, 1) := by decide +kernel
theorem dX1_speedAfter_38 : decode cX1_speedAfter 38 = .ok (.ireturn, 1) := by decide +kernel
theorem dX2_init_0 : decode cX2_init 0 = .ok (.aload_n 0, 1) := by decide +kernel
theorem dX2_init_1 : decode cX2_init 1 = .ok (.invokespecial 3, 3) := by decide +kernel
theorem dX2_init_4 : decode cX2_init 4 = .ok (.aload_n 0, 1) := by decide +kernel
theorem dX2_init_5 : decode cX2_init 5 = .ok (.bipush 60, 2) := by decide +kernel
theorem dX2_init_7 : decode cX2_init 7 = .ok (.newarray .char, 2) := by decide +kernel
theorem dX2_init_9 : decode cX2_init 9 = .ok (.putfield 9, 3) := by decide +kernel
theorem dX2_init_12 : decode cX2_init 12 = .ok (.return_, 1) := by decide +kernel
theorem dX2_keep_0 : decode cX2_keep 0 = .ok (.iconst 0, 1) := by decide +kernel
theorem dX2_keep_1 : decode cX2_keep 1 = .ok (.istore_n 3, 1) := by decide +kernel
theorem dX2_keep_2 : decode cX2_keep 2 = .ok (.iload_n 3, 1) := by decide +kernel
theorem dX2_keep_3 : decode cX2_keep 3 = .ok (.aload_n 1, 1) := by decide +kernel
theorem dX2_keep_4 : decode cX2_keep 4 = .ok (.getfield 15, 3) := by decide +kernel
theorem dX2_keep_7 : decode cX2_keep 7 = .ok (.if_icmp .ge 30, 3) := by decide +kernel
theorem dX2_keep_10 : decode cX2_keep 10 = .ok (.iload_n 3, 1) := by decide +kernel
theorem dX2_keep_11 : decode cX2_keep 11 = .ok (.bipush 60, 2) := by decide +kernel
theorem dX2_keep_13 : decode cX2_keep 13 = .ok (.if_icmp .ge 24, 3) := by decide +kernel
theorem dX2_keep_16 : decode cX2_keep 16 = .ok (.iload_n 3, 1) := by decide +kernel
theorem dX2_keep_17 : decode cX2_keep 17 = .ok (.aload_n 2, 1) := by decide +kernel
theorem dX2_keep_18 : decode cX2_keep 18 = .ok (.arraylength, 1) := by decide +kernel
theorem dX2_keep_19 : decode cX2_keep 19 = .ok (.if_icmp .ge 18, 3) := by decide +kernel
theorem dX2_keep_22 : decode cX2_keep 22 = .ok (.aload_n 0, 1) := by decide +kernel
theorem dX2_keep_23 : decode cX2_keep 23 = .ok (.getfield 9, 3) := by decide +kernel
theorem dX2_keep_26 : decode cX2_keep 26 = .ok (.iload_n 3, 1) := by decide +kernel
theorem dX2_keep_27 : decode cX2_keep 27 = .ok (.aload_n 2, 1) := by decide +kernel
theorem dX2_keep_28 : decode cX2_keep 28 = .ok (.iload_n 3, 1) := by decide +kernel
theorem dX2_keep_29 : decode cX2_keep 29 = .ok (.caload, 1) := by decide +kernel
theorem dX2_keep_30 : decode cX2_keep 30 = .ok (.castore, 1) := by decide +kernel
theorem dX2_keep_31 : decode cX2_keep 31 = .ok (.iinc 3 1, 3) := by decide +kernel
theorem dX2_keep_34 : decode cX2_keep 34 = .ok (.goto (-32), 3) := by decide +kernel
theorem dX2_keep_37 : decode cX2_keep 37 = .ok (.aload_n 0, 1) := by decide +kernel
theorem dX2_keep_38 : decode cX2_keep 38 = .ok (.aload_n 1, 1) := by decide +kernel
theorem dX2_keep_39 : decode cX2_keep 39 = .ok (.getfield 15, 3) := by decide +kernel
theorem dX2_keep_42 : decode cX2_keep 42 = .ok (.putfield 21, 3) := by decide +kernel
theorem dX2_keep_45 : decode cX2_keep 45 = .ok (.aload_n 0, 1) := by decide +kernel
theorem dX2_keep_46 : decode cX2_keep 46 = .ok (.aload_n 1, 1) := by decide +kernel
theorem dX2_keep_47 : decode cX2_keep 47 = .ok (.getfield 22, 3) := by decide +kernel
theorem dX2_keep_50 : decode cX2_keep 50 = .ok (.putfield 25, 3) := by decide +kernel
theorem dX2_keep_53 : decode cX2_keep 53 = .ok (.aload_n 0, 1) := by decide +kernel
theorem dX2_keep_54 : decode cX2_keep 54 = .ok (.iconst 1, 1) := by decide +kernel
theorem dX2_keep_55 : decode cX2_keep 55 = .ok (.putfield 26, 3) := by decide +kernel
theorem dX2_keep_58 : decode cX2_keep 58 = .ok (.return_, 1) := by decide +kernel
theorem dX2_counted_0 : decode cX2_counted 0 = .ok (.aload_n 0, 1) := by decide +kernel
theorem dX2_counted_1 : decode cX2_counted 1 = .ok (.getfield 25, 3) := by decide +kernel
theorem dX2_counted_4 : decode cX2_counted 4 = .ok (.aload_n 0, 1) := by decide +kernel
theorem dX2_counted_5 : decode cX2_counted 5 = .ok (.getfield 30, 3) := by decide +kernel
theorem dX2_counted_8 : decode cX2_counted 8 = .ok (.iadd, 1) := by decide +kernel
theorem dX2_counted_9 : decode cX2_counted 9 = .ok (.ireturn, 1) := by decide +kernel
theorem dX2_inputsUnlike_0 : decode cX2_inputsUnlike 0 = .ok (.iconst 0, 1) := by decide +kernel
theorem dX2_inputsUnlike_1 : decode cX2_inputsUnlike 1 = .ok (.istore_n 2, 1) := by decide +kernel
theorem dX2_inputsUnlike_2 : decode cX2_inputsUnlike 2 = .ok (.iconst 0, 1) := by decide +kernel
theorem dX2_inputsUnlike_3 : decode cX2_inputsUnlike 3 = .ok (.istore_n 3, 1) := by decide +kernel
theorem dX2_inputsUnlike_4 : decode cX2_inputsUnlike 4 = .ok (.iload_n 3, 1) := by decide +kernel
theorem dX2_inputsUnlike_5 : decode cX2_inputsUnlike 5 = .ok (.aload_n 0, 1) := by decide +kernel
theorem dX2_inputsUnlike_6 : decode cX2_inputsUnlike 6 = .ok (.getfield 21, 3) := by decide +kernel
theorem dX2_inputsUnlike_9 : decode cX2_inputsUnlike 9 = .ok (.if_icmp .ge 41, 3) := by decide +kernel
theorem dX2_inputsUnlike_12 : decode cX2_inputsUnlike 12 = .ok (.iload_n 3, 1) := by decide +kernel
theorem dX2_inputsUnlike_13 : decode cX2_inputsUnlike 13 = .ok (.bipush 60, 2) := by decide +kernel
theorem dX2_inputsUnlike_15 : decode cX2_inputsUnlike 15 = .ok (.if_icmp .ge 35, 3) := by decide +kernel
theorem dX2_inputsUnlike_18 : decode cX2_inputsUnlike 18 = .ok (.iload_n 3, 1) := by decide +kernel
theorem dX2_inputsUnlike_19 : decode cX2_inputsUnlike 19 = .ok (.aload_n 1, 1) := by decide +kernel
theorem dX2_inputsUnlike_20 : decode cX2_inputsUnlike 20 = .ok (.getfield 21, 3) := by decide +kernel
theorem dX2_inputsUnlike_23 : decode cX2_inputsUnlike 23 = .ok (.if_icmp .ge 18, 3) := by decide +kernel
theorem dX2_inputsUnlike_26 : decode cX2_inputsUnlike 26 = .ok (.aload_n 0, 1) := by decide +kernel
theorem dX2_inputsUnlike_27 : decode cX2_inputsUnlike 27 = .ok (.getfield 9, 3) := by decide +kernel
theorem dX2_inputsUnlike_30 : decode cX2_inputsUnlike 30 = .ok (.iload_n 3, 1) := by decide +kernel
theorem dX2_inputsUnlike_31 : decode cX2_inputsUnlike 31 = .ok (.caload, 1) := by decide +kernel
theorem dX2_inputsUnlike_32 : decode cX2_inputsUnlike 32 = .ok (.aload_n 1, 1) := by decide +kernel
theorem dX2_inputsUnlike_33 : decode cX2_inputsUnlike 33 = .ok (.getfield 9, 3) := by decide +kernel
theorem dX2_inputsUnlike_36 : decode cX2_inputsUnlike 36 = .ok (.iload_n 3, 1) := by decide +kernel
theorem dX2_inputsUnlike_37 : decode cX2_inputsUnlike 37 = .ok (.caload, 1) := by decide +kernel
theorem dX2_inputsUnlike_38 : decode cX2_inputsUnlike 38 = .ok (.if_icmp .eq 6, 3) := by decide +kernel
theorem dX2_inputsUnlike_41 : decode cX2_inputsUnlike 41 = .ok (.iinc 2 1, 3) := by decide +kernel
theorem dX2_inputsUnlike_44 : decode cX2_inputsUnlike 44 = .ok (.iinc 3 1, 3) := by decide +kernel
theorem dX2_inputsUnlike_47 : decode cX2_inputsUnlike 47 = .ok (.goto (-43), 3) := by decide +kernel
theorem dX2_inputsUnlike_50 : decode cX2_inputsUnlike 50 = .ok (.iload_n 2, 1) := by decide +kernel
theorem dX2_inputsUnlike_51 : decode cX2_inputsUnlike 51 = .ok (.ireturn, 1) := by decide +kernel
theorem dX3_init_0 : decode cX3_init 0 = .ok (.aload_n 0, 1) := by decide +kernel
theorem dX3_init_1 : decode cX3_init 1 = .ok (.invokespecial 1, 3) := by decide +kernel
theorem dX3_init_4 : decode cX3_init 4 = .ok (.return_, 1) := by decide +kernel
theorem dX3_follow_0 : decode cX3_follow 0 = .ok (.aload_n 0, 1) := by decide +kernel
theorem dX3_follow_1 : decode cX3_follow 1 = .ok (.iconst 0, 1) := by decide +kernel
theorem dX3_follow_2 : decode cX3_follow 2 = .ok (.putfield 7, 3) := by decide +kernel
theorem dX3_follow_5 : decode cX3_follow 5 = .ok (.aload_n 0, 1) := by decide +kernel
theorem dX3_follow_6 : decode cX3_follow 6 = .ok (.iconst 0, 1) := by decide +kernel
theorem dX3_follow_7 : decode cX3_follow 7 = .ok (.putfield 13, 3) := by decide +kernel
theorem dX3_follow_10 : decode cX3_follow 10 = .ok (.aload_n 0, 1) := by decide +kernel
theorem dX3_follow_11 : decode cX3_follow 11 = .ok (.iconst 0, 1) := by decide +kernel
theorem dX3_follow_12 : decode cX3_follow 12 = .ok (.putfield 16, 3) := by decide +kernel
theorem dX3_follow_15 : decode cX3_follow 15 = .ok (.aload_n 0, 1) := by decide +kernel
theorem dX3_follow_16 : decode cX3_follow 16 = .ok (.iconst 0, 1) := by decide +kernel
theorem dX3_follow_17 : decode cX3_follow 17 = .ok (.putfield 19, 3) := by decide +kernel
theorem dX3_follow_20 : decode cX3_follow 20 = .ok (.aload_n 0, 1) := by decide +kernel
theorem dX3_follow_21 : decode cX3_follow 21 = .ok (.iconst 0, 1) := by decide +kernel
theorem dX3_follow_22 : decode cX3_follow 22 = .ok (.putfield 22, 3) := by decide +kernel
theorem dX3_follow_25 : decode cX3_follow 25 = .ok (.iconst 0, 1) := by decide +kernel
theorem dX3_follow_26 : decode cX3_follow 26 = .ok (.istore 5, 2) := by decide +kernel
theorem dX3_follow_28 : decode cX3_follow 28 = .ok (.iload 5, 2) := by decide +kernel
theorem dX3_follow_30 : decode cX3_follow 30 = .ok (.iload_n 2, 1) := by decide +kernel
theorem dX3_follow_31 : decode cX3_follow 31 = .ok (.if_icmp .ge 34, 3) := by decide +kernel
theorem dX3_follow_34 : decode cX3_follow 34 = .ok (.iload 5, 2) := by decide +kernel
theorem dX3_follow_36 : decode cX3_follow 36 = .ok (.aload_n 1, 1) := by decide +kernel
theorem dX3_follow_37 : decode cX3_follow 37 = .ok (.arraylength, 1) := by decide +kernel
theorem dX3_follow_38 : decode cX3_follow 38 = .ok (.if_icmp .ge 27, 3) := by decide +kernel
theorem dX3_follow_41 : decode cX3_follow 41 = .ok (.aload_n 0, 1) := by decide +kernel
theorem dX3_follow_42 : decode cX3_follow 42 = .ok (.getfield 22, 3) := by decide +kernel
theorem dX3_follow_45 : decode cX3_follow 45 = .ok (.ifCond .ne 20, 3) := by decide +kernel
theorem dX3_follow_48 : decode cX3_follow 48 = .ok (.aload_n 0, 1) := by decide +kernel
theorem dX3_follow_49 : decode cX3_follow 49 = .ok (.aload_n 1, 1) := by decide +kernel
theorem dX3_follow_50 : decode cX3_follow 50 = .ok (.iload 5, 2) := by decide +kernel
theorem dX3_follow_52 : decode cX3_follow 52 = .ok (.caload, 1) := by decide +kernel
theorem dX3_follow_53 : decode cX3_follow 53 = .ok (.aload_n 3, 1) := by decide +kernel
theorem dX3_follow_54 : decode cX3_follow 54 = .ok (.aload 4, 2) := by decide +kernel
theorem dX3_follow_56 : decode cX3_follow 56 = .ok (.invokevirtual 26, 3) := by decide +kernel
theorem dX3_follow_59 : decode cX3_follow 59 = .ok (.iinc 5 1, 3) := by decide +kernel
theorem dX3_follow_62 : decode cX3_follow 62 = .ok (.goto (-34), 3) := by decide +kernel
theorem dX3_follow_65 : decode cX3_follow 65 = .ok (.return_, 1) := by decide +kernel
theorem dX3_move_0 : decode cX3_move 0 = .ok (.aload_n 0, 1) := by decide +kernel
theorem dX3_move_1 : decode cX3_move 1 = .ok (.dup, 1) := by decide +kernel
theorem dX3_move_2 : decode cX3_move 2 = .ok (.getfield 16, 3) := by decide +kernel
theorem dX3_move_5 : decode cX3_move 5 = .ok (.iconst 1, 1) := by decide +kernel
theorem dX3_move_6 : decode cX3_move 6 = .ok (.iadd, 1) := by decide +kernel
theorem dX3_move_7 : decode cX3_move 7 = .ok (.putfield 16, 3) := by decide +kernel
theorem dX3_move_10 : decode cX3_move 10 = .ok (.aload_n 0, 1) := by decide +kernel
theorem dX3_move_11 : decode cX3_move 11 = .ok (.aload_n 3, 1) := by decide +kernel
theorem dX3_move_12 : decode cX3_move 12 = .ok (.aload_n 0, 1) := by decide +kernel
theorem dX3_move_13 : decode cX3_move 13 = .ok (.getfield 13, 3) := by decide +kernel
theorem dX3_move_16 : decode cX3_move 16 = .ok (.iload_n 1, 1) := by decide +kernel
theorem dX3_move_17 : decode cX3_move 17 = .ok (.invokevirtual 30, 3) := by decide +kernel
theorem dX3_move_20 : decode cX3_move 20 = .ok (.putfield 13, 3) := by decide +kernel
theorem dX3_move_23 : decode cX3_move 23 = .ok (.aload_n 0, 1) := by decide +kernel
theorem dX3_move_24 : decode cX3_move 24 = .ok (.dup, 1) := by decide +kernel
theorem dX3_move_25 : decode cX3_move 25 = .ok (.getfield 7, 3) := by decide +kernel
theorem dX3_move_28 : decode cX3_move 28 = .ok (.aload_n 0, 1) := by decide +kernel
theorem dX3_move_29 : decode cX3_move 29 = .ok (.getfield 13, 3) := by decide +kernel
theorem dX3_move_32 : decode cX3_move 32 = .ok (.iadd, 1) := by decide +kernel
theorem dX3_move_33 : decode cX3_move 33 = .ok (.putfield 7, 3) := by decide +kernel
theorem dX3_move_36 : decode cX3_move 36 = .ok (.aload_n 0, 1) := by decide +kernel
theorem dX3_move_37 : decode cX3_move 37 = .ok (.getfield 7, 3) := by decide +kernel
theorem dX3_move_40 : decode cX3_move 40 = .ok (.aload_n 2, 1) := by decide +kernel
theorem dX3_move_41 : decode cX3_move 41 = .ok (.getfield 36, 3) := by decide +kernel
theorem dX3_move_44 : decode cX3_move 44 = .ok (.if_icmp .lt 19, 3) := by decide +kernel
theorem dX3_move_47 : decode cX3_move 47 = .ok (.aload_n 0, 1) := by decide +kernel
theorem dX3_move_48 : decode cX3_move 48 = .ok (.aload_n 0, 1) := by decide +kernel
theorem dX3_move_49 : decode cX3_move 49 = .ok (.getfield 7, 3) := by decide +kernel
theorem dX3_move_52 : decode cX3_move 52 = .ok (.aload_n 2, 1) := by decide +kernel
theorem dX3_move_53 : decode cX3_move 53 = .ok (.getfield 36, 3) := by decide +kernel
theorem dX3_move_56 : decode cX3_move 56 = .ok (.isub, 1) := by decide +kernel
theorem dX3_move_57 : decode cX3_move 57 = .ok (.invokevirtual 41, 3) := by decide +kernel
theorem dX3_move_60 : decode cX3_move 60 = .ok (.goto 33, 3) := by decide +kernel
theorem dX3_move_63 : decode cX3_move 63 = .ok (.aload_n 0, 1) := by decide +kernel
theorem dX3_move_64 : decode cX3_move 64 = .ok (.getfield 13, 3) := by decide +kernel
theorem dX3_move_67 : decode cX3_move 67 = .ok (.aload_n 2, 1) := by decide +kernel
theorem dX3_move_68 : decode cX3_move 68 = .ok (.aload_n 0, 1) := by decide +kernel
theorem dX3_move_69 : decode cX3_move 69 = .ok (.getfield 7, 3) := by decide +kernel
theorem dX3_move_72 : decode cX3_move 72 = .ok (.invokevirtual 45, 3) := by decide +kernel
theorem dX3_move_75 : decode cX3_move 75 = .ok (.aload_n 3, 1) := by decide +kernel
theorem dX3_move_76 : decode cX3_move 76 = .ok (.getfield 49, 3) := by decide +kernel
theorem dX3_move_79 : decode cX3_move 79 = .ok (.iadd, 1) := by decide +kernel
theorem dX3_move_80 : decode cX3_move 80 = .ok (.if_icmp .le 13, 3) := by decide +kernel
theorem dX3_move_83 : decode cX3_move 83 = .ok (.aload_n 0, 1) := by decide +kernel
theorem dX3_move_84 : decode cX3_move 84 = .ok (.aload_n 0, 1) := by decide +kernel
theorem dX3_move_85 : decode cX3_move 85 = .ok (.getfield 13, 3) := by decide +kernel
theorem dX3_move_88 : decode cX3_move 88 = .ok (.iconst 2, 1) := by decide +kernel
theorem dX3_move_89 : decode cX3_move 89 = .ok (.idiv, 1) := by decide +kernel
theorem dX3_move_90 : decode cX3_move 90 = .ok (.putfield 13, 3) := by decide +kernel
theorem dX3_move_93 : decode cX3_move 93 = .ok (.return_, 1) := by decide +kernel
theorem dX3_finish_0 : decode cX3_finish 0 = .ok (.aload_n 0, 1) := by decide +kernel
theorem dX3_finish_1 : decode cX3_finish 1 = .ok (.iconst 1, 1) := by decide +kernel
theorem dX3_finish_2 : decode cX3_finish 2 = .ok (.putfield 22, 3) := by decide +kernel
theorem dX3_finish_5 : decode cX3_finish 5 = .ok (.aload_n 0, 1) := by decide +kernel
theorem dX3_finish_6 : decode cX3_finish 6 = .ok (.getfield 13, 3) := by decide +kernel
theorem dX3_finish_9 : decode cX3_finish 9 = .ok (.ifCond .le 15, 3) := by decide +kernel
theorem dX3_finish_12 : decode cX3_finish 12 = .ok (.bipush 100, 2) := by decide +kernel
theorem dX3_finish_14 : decode cX3_finish 14 = .ok (.iload_n 1, 1) := by decide +kernel
theorem dX3_finish_15 : decode cX3_finish 15 = .ok (.imul, 1) := by decide +kernel
theorem dX3_finish_16 : decode cX3_finish 16 = .ok (.aload_n 0, 1) := by decide +kernel
theorem dX3_finish_17 : decode cX3_finish 17 = .ok (.getfield 13, 3) := by decide +kernel
theorem dX3_finish_20 : decode cX3_finish 20 = .ok (.idiv, 1) := by decide +kernel
theorem dX3_finish_21 : decode cX3_finish 21 = .ok (.goto 4, 3) := by decide +kernel
theorem dX3_finish_24 : decode cX3_finish 24 = .ok (.iconst 0, 1) := by decide +kernel
theorem dX3_finish_25 : decode cX3_finish 25 = .ok (.istore_n 2, 1) := by decide +kernel
theorem dX3_finish_26 : decode cX3_finish 26 = .ok (.aload_n 0, 1) := by decide +kernel
theorem dX3_finish_27 : decode cX3_finish 27 = .ok (.bipush 100, 2) := by decide +kernel
theorem dX3_finish_29 : decode cX3_finish 29 = .ok (.aload_n 0, 1) := by decide +kernel
theorem dX3_finish_30 : decode cX3_finish 30 = .ok (.getfield 16, 3) := by decide +kernel
theorem dX3_finish_33 : decode cX3_finish 33 = .ok (.imul, 1) := by decide +kernel
theorem dX3_finish_34 : decode cX3_finish 34 = .ok (.iload_n 2, 1) := by decide +kernel
theorem dX3_finish_35 : decode cX3_finish 35 = .ok (.isub, 1) := by decide +kernel
theorem dX3_finish_36 : decode cX3_finish 36 = .ok (.putfield 19, 3) := by decide +kernel
theorem dX3_finish_39 : decode cX3_finish 39 = .ok (.return_, 1) := by decide +kernel
theorem dX4_init_0 : decode cX4_init 0 = .ok (.aload_n 0, 1) := by decide +kernel
theorem dX4_init_1 : decode cX4_init 1 = .ok (.invokespecial 3, 3) := by decide +kernel
theorem dX4_init_4 : decode cX4_init 4 = .ok (.aload_n 0, 1) := by decide +kernel
theorem dX4_init_5 : decode cX4_init 5 = .ok (.bipush 10, 2) := by decide +kernel
theorem dX4_init_7 : decode cX4_init 7 = .ok (.newarray .int, 2) := by decide +kernel
theorem dX4_init_9 : decode cX4_init 9 = .ok (.putfield 9, 3) := by decide +kernel
theorem dX4_init_12 : decode cX4_init 12 = .ok (.aload_n 0, 1) := by decide +kernel
theorem dX4_init_13 : decode cX4_init 13 = .ok (.iconst (-1), 1) := by decide +kernel
theorem dX4_init_14 : decode cX4_init 14 = .ok (.putfield 15, 3) := by decide +kernel
theorem dX4_init_17 : decode cX4_init 17 = .ok (.aload_n 0, 1) := by decide +kernel
theorem dX4_init_18 : decode cX4_init 18 = .ok (.bipush 6, 2) := by decide +kernel
theorem dX4_init_20 : decode cX4_init 20 = .ok (.newarray .int, 2) := by decide +kernel
theorem dX4_init_22 : decode cX4_init 22 = .ok (.putfield 19, 3) := by decide +kernel
theorem dX4_init_25 : decode cX4_init 25 = .ok (.aload_n 0, 1) := by decide +kernel
theorem dX4_init_26 : decode cX4_init 26 = .ok (.bipush 60, 2) := by decide +kernel
theorem dX4_init_28 : decode cX4_init 28 = .ok (.newarray .int, 2) := by decide +kernel
theorem dX4_init_30 : decode cX4_init 30 = .ok (.putfield 22, 3) := by decide +kernel
theorem dX4_init_33 : decode cX4_init 33 = .ok (.aload_n 0, 1) := by decide +kernel
theorem dX4_init_34 : decode cX4_init 34 = .ok (.bipush 6, 2) := by decide +kernel
theorem dX4_init_36 : decode cX4_init 36 = .ok (.newarray .int, 2) := by decide +kernel
theorem dX4_init_38 : decode cX4_init 38 = .ok (.putfield 25, 3) := by decide +kernel
theorem dX4_init_41 : decode cX4_init 41 = .ok (.aload_n 0, 1) := by decide +kernel
theorem dX4_init_42 : decode cX4_init 42 = .ok (.bipush 6, 2) := by decide +kernel
theorem dX4_init_44 : decode cX4_init 44 = .ok (.newarray .int, 2) := by decide +kernel
theorem dX4_init_46 : decode cX4_init 46 = .ok (.putfield 28, 3) := by decide +kernel
theorem dX4_init_49 : decode cX4_init 49 = .ok (.return_, 1) := by decide +kernel
theorem dX4_openOn_0 : decode cX4_openOn 0 = .ok (.aload_n 0, 1) := by decide +kernel
theorem dX4_openOn_1 : decode cX4_openOn 1 = .ok (.getfield 31, 3) := by decide +kernel
theorem dX4_openOn_4 : decode cX4_openOn 4 = .ok (.bipush 10, 2) := by decide +kernel
theorem dX4_openOn_6 : decode cX4_openOn 6 = .ok (.if_icmp .ge 31, 3) := by decide +kernel
theorem dX4_openOn_9 : decode cX4_openOn 9 = .ok (.aload_n 0, 1) := by decide +kernel
theorem dX4_openOn_10 : decode cX4_openOn 10 = .ok (.getfield 9, 3) := by decide +kernel
theorem dX4_openOn_13 : decode cX4_openOn 13 = .ok (.aload_n 0, 1) := by decide +kernel
theorem dX4_openOn_14 : decode cX4_openOn 14 = .ok (.getfield 31, 3) := by decide +kernel
theorem dX4_openOn_17 : decode cX4_openOn 17 = .ok (.iload_n 1, 1) := by decide +kernel
theorem dX4_openOn_18 : decode cX4_openOn 18 = .ok (.iastore, 1) := by decide +kernel
theorem dX4_openOn_19 : decode cX4_openOn 19 = .ok (.aload_n 0, 1) := by decide +kernel
theorem dX4_openOn_20 : decode cX4_openOn 20 = .ok (.aload_n 0, 1) := by decide +kernel
theorem dX4_openOn_21 : decode cX4_openOn 21 = .ok (.getfield 31, 3) := by decide +kernel
theorem dX4_openOn_24 : decode cX4_openOn 24 = .ok (.putfield 15, 3) := by decide +kernel
theorem dX4_openOn_27 : decode cX4_openOn 27 = .ok (.aload_n 0, 1) := by decide +kernel
theorem dX4_openOn_28 : decode cX4_openOn 28 = .ok (.dup, 1) := by decide +kernel
theorem dX4_openOn_29 : decode cX4_openOn 29 = .ok (.getfield 31, 3) := by decide +kernel
theorem dX4_openOn_32 : decode cX4_openOn 32 = .ok (.iconst 1, 1) := by decide +kernel
theorem dX4_openOn_33 : decode cX4_openOn 33 = .ok (.iadd, 1) := by decide +kernel
theorem dX4_openOn_34 : decode cX4_openOn 34 = .ok (.putfield 31, 3) := by decide +kernel
theorem dX4_openOn_37 : decode cX4_openOn 37 = .ok (.return_, 1) := by decide +kernel
theorem dX4_roundOn_0 : decode cX4_roundOn 0 = .ok (.aload_n 0, 1) := by decide +kernel
theorem dX4_roundOn_1 : decode cX4_roundOn 1 = .ok (.getfield 15, 3) := by decide +kernel
theorem dX4_roundOn_4 : decode cX4_roundOn 4 = .ok (.ifCond .lt 34, 3) := by decide +kernel
theorem dX4_roundOn_7 : decode cX4_roundOn 7 = .ok (.aload_n 0, 1) := by decide +kernel
theorem dX4_roundOn_8 : decode cX4_roundOn 8 = .ok (.getfield 15, 3) := by decide +kernel
theorem dX4_roundOn_11 : decode cX4_roundOn 11 = .ok (.aload_n 0, 1) := by decide +kernel
theorem dX4_roundOn_12 : decode cX4_roundOn 12 = .ok (.getfield 31, 3) := by decide +kernel
theorem dX4_roundOn_15 : decode cX4_roundOn 15 = .ok (.if_icmp .ge 23, 3) := by decide +kernel
theorem dX4_roundOn_18 : decode cX4_roundOn 18 = .ok (.aload_n 0, 1) := by decide +kernel
theorem dX4_roundOn_19 : decode cX4_roundOn 19 = .ok (.getfield 9, 3) := by decide +kernel
theorem dX4_roundOn_22 : decode cX4_roundOn 22 = .ok (.aload_n 0, 1) := by decide +kernel
theorem dX4_roundOn_23 : decode cX4_roundOn 23 = .ok (.getfield 15, 3) := by decide +kernel
theorem dX4_roundOn_26 : decode cX4_roundOn 26 = .ok (.iaload, 1) := by decide +kernel
theorem dX4_roundOn_27 : decode cX4_roundOn 27 = .ok (.iload_n 1, 1) := by decide +kernel
theorem dX4_roundOn_28 : decode cX4_roundOn 28 = .ok (.if_icmp .ne 10, 3) := by decide +kernel
theorem dX4_roundOn_31 : decode cX4_roundOn 31 = .ok (.aload_n 0, 1) := by decide +kernel
theorem dX4_roundOn_32 : decode cX4_roundOn 32 = .ok (.getfield 15, 3) := by decide +kernel
theorem dX4_roundOn_35 : decode cX4_roundOn 35 = .ok (.goto 4, 3) := by decide +kernel
theorem dX4_roundOn_38 : decode cX4_roundOn 38 = .ok (.iconst (-1), 1) := by decide +kernel
theorem dX4_roundOn_39 : decode cX4_roundOn 39 = .ok (.ireturn, 1) := by decide +kernel
theorem dX4_findLaps_0 : decode cX4_findLaps 0 = .ok (.iconst 0, 1) := by decide +kernel
theorem dX4_findLaps_1 : decode cX4_findLaps 1 = .ok (.istore_n 3, 1) := by decide +kernel
theorem dX4_findLaps_2 : decode cX4_findLaps 2 = .ok (.iload_n 3, 1) := by decide +kernel
theorem dX4_findLaps_3 : decode cX4_findLaps 3 = .ok (.bipush 6, 2) := by decide +kernel
theorem dX4_findLaps_5 : decode cX4_findLaps 5 = .ok (.if_icmp .ge 16, 3) := by decide +kernel
theorem dX4_findLaps_8 : decode cX4_findLaps 8 = .ok (.aload_n 0, 1) := by decide +kernel
theorem dX4_findLaps_9 : decode cX4_findLaps 9 = .ok (.getfield 19, 3) := by decide +kernel
theorem dX4_findLaps_12 : decode cX4_findLaps 12 = .ok (.iload_n 3, 1) := by decide +kernel
theorem dX4_findLaps_13 : decode cX4_findLaps 13 = .ok (.iconst (-1), 1) := by decide +kernel
theorem dX4_findLaps_14 : decode cX4_findLaps 14 = .ok (.iastore, 1) := by decide +kernel
theorem dX4_findLaps_15 : decode cX4_findLaps 15 = .ok (.iinc 3 1, 3) := by decide +kernel
theorem dX4_findLaps_18 : decode cX4_findLaps 18 = .ok (.goto (-16), 3) := by decide +kernel
theorem dX4_findLaps_21 : decode cX4_findLaps 21 = .ok (.iconst 0, 1) := by decide +kernel
theorem dX4_findLaps_22 : decode cX4_findLaps 22 = .ok (.istore_n 3, 1) := by decide +kernel
theorem dX4_findLaps_23 : decode cX4_findLaps 23 = .ok (.iload_n 3, 1) := by decide +kernel
theorem dX4_findLaps_24 : decode cX4_findLaps 24 = .ok (.aload_n 1, 1) := by decide +kernel
theorem dX4_findLaps_25 : decode cX4_findLaps 25 = .ok (.getfield 34, 3) := by decide +kernel
theorem dX4_findLaps_28 : decode cX4_findLaps 28 = .ok (.if_icmp .ge 63, 3) := by decide +kernel
theorem dX4_findLaps_31 : decode cX4_findLaps 31 = .ok (.aload_n 1, 1) := by decide +kernel
theorem dX4_findLaps_32 : decode cX4_findLaps 32 = .ok (.getfield 39, 3) := by decide +kernel
theorem dX4_findLaps_35 : decode cX4_findLaps 35 = .ok (.iload_n 3, 1) := by decide +kernel
theorem dX4_findLaps_36 : decode cX4_findLaps 36 = .ok (.aaload, 1) := by decide +kernel
theorem dX4_findLaps_37 : decode cX4_findLaps 37 = .ok (.astore 4, 2) := by decide +kernel
theorem dX4_findLaps_39 : decode cX4_findLaps 39 = .ok (.aload 4, 2) := by decide +kernel
theorem dX4_findLaps_41 : decode cX4_findLaps 41 = .ok (.getfield 43, 3) := by decide +kernel
theorem dX4_findLaps_44 : decode cX4_findLaps 44 = .ok (.ifCond .eq 41, 3) := by decide +kernel
theorem dX4_findLaps_47 : decode cX4_findLaps 47 = .ok (.aload 4, 2) := by decide +kernel
theorem dX4_findLaps_49 : decode cX4_findLaps 49 = .ok (.getfield 49, 3) := by decide +kernel
theorem dX4_findLaps_52 : decode cX4_findLaps 52 = .ok (.iload_n 2, 1) := by decide +kernel
theorem dX4_findLaps_53 : decode cX4_findLaps 53 = .ok (.if_icmp .ne 32, 3) := by decide +kernel
theorem dX4_findLaps_56 : decode cX4_findLaps 56 = .ok (.aload_n 1, 1) := by decide +kernel
theorem dX4_findLaps_57 : decode cX4_findLaps 57 = .ok (.iload_n 3, 1) := by decide +kernel
theorem dX4_findLaps_58 : decode cX4_findLaps 58 = .ok (.aload_n 0, 1) := by decide +kernel
theorem dX4_findLaps_59 : decode cX4_findLaps 59 = .ok (.getfield 19, 3) := by decide +kernel
theorem dX4_findLaps_62 : decode cX4_findLaps 62 = .ok (.aload 4, 2) := by decide +kernel
theorem dX4_findLaps_64 : decode cX4_findLaps 64 = .ok (.getfield 52, 3) := by decide +kernel
theorem dX4_findLaps_67 : decode cX4_findLaps 67 = .ok (.iaload, 1) := by decide +kernel
theorem dX4_findLaps_68 : decode cX4_findLaps 68 = .ok (.invokevirtual 55, 3) := by decide +kernel
theorem dX4_findLaps_71 : decode cX4_findLaps 71 = .ok (.ifCond .eq 14, 3) := by decide +kernel
theorem dX4_findLaps_74 : decode cX4_findLaps 74 = .ok (.aload_n 0, 1) := by decide +kernel
theorem dX4_findLaps_75 : decode cX4_findLaps 75 = .ok (.getfield 19, 3) := by decide +kernel
theorem dX4_findLaps_78 : decode cX4_findLaps 78 = .ok (.aload 4, 2) := by decide +kernel
theorem dX4_findLaps_80 : decode cX4_findLaps 80 = .ok (.getfield 52, 3) := by decide +kernel
theorem dX4_findLaps_83 : decode cX4_findLaps 83 = .ok (.iload_n 3, 1) := by decide +kernel
theorem dX4_findLaps_84 : decode cX4_findLaps 84 = .ok (.iastore, 1) := by decide +kernel
theorem dX4_findLaps_85 : decode cX4_findLaps 85 = .ok (.iinc 3 1, 3) := by decide +kernel
theorem dX4_findLaps_88 : decode cX4_findLaps 88 = .ok (.goto (-65), 3) := by decide +kernel
theorem dX4_findLaps_91 : decode cX4_findLaps 91 = .ok (.return_, 1) := by decide +kernel
theorem dX4_lapsAhead_0 : decode cX4_lapsAhead 0 = .ok (.iconst 0, 1) := by decide +kernel
theorem dX4_lapsAhead_1 : decode cX4_lapsAhead 1 = .ok (.istore_n 3, 1) := by decide +kernel
theorem dX4_lapsAhead_2 : decode cX4_lapsAhead 2 = .ok (.iconst 0, 1) := by decide +kernel
theorem dX4_lapsAhead_3 : decode cX4_lapsAhead 3 = .ok (.istore 4, 2) := by decide +kernel
theorem dX4_lapsAhead_5 : decode cX4_lapsAhead 5 = .ok (.iload 4, 2) := by decide +kernel
theorem dX4_lapsAhead_7 : decode cX4_lapsAhead 7 = .ok (.bipush 6, 2) := by decide +kernel
theorem dX4_lapsAhead_9 : decode cX4_lapsAhead 9 = .ok (.if_icmp .ge 27, 3) := by decide +kernel
theorem dX4_lapsAhead_12 : decode cX4_lapsAhead 12 = .ok (.aload_n 1, 1) := by decide +kernel
theorem dX4_lapsAhead_13 : decode cX4_lapsAhead 13 = .ok (.aload_n 0, 1) := by decide +kernel
theorem dX4_lapsAhead_14 : decode cX4_lapsAhead 14 = .ok (.getfield 19, 3) := by decide +kernel
theorem dX4_lapsAhead_17 : decode cX4_lapsAhead 17 = .ok (.iload 4, 2) := by decide +kernel
theorem dX4_lapsAhead_19 : decode cX4_lapsAhead 19 = .ok (.iaload, 1) := by decide +kernel
theorem dX4_lapsAhead_20 : decode cX4_lapsAhead 20 = .ok (.iload_n 2, 1) := by decide +kernel
theorem dX4_lapsAhead_21 : decode cX4_lapsAhead 21 = .ok (.invokevirtual 55, 3) := by decide +kernel
theorem dX4_lapsAhead_24 : decode cX4_lapsAhead 24 = .ok (.ifCond .eq 6, 3) := by decide +kernel
theorem dX4_lapsAhead_27 : decode cX4_lapsAhead 27 = .ok (.iinc 3 1, 3) := by decide +kernel
theorem dX4_lapsAhead_30 : decode cX4_lapsAhead 30 = .ok (.iinc 4 1, 3) := by decide +kernel
theorem dX4_lapsAhead_33 : decode cX4_lapsAhead 33 = .ok (.goto (-28), 3) := by decide +kernel
theorem dX4_lapsAhead_36 : decode cX4_lapsAhead 36 = .ok (.iload_n 3, 1) := by decide +kernel
theorem dX4_lapsAhead_37 : decode cX4_lapsAhead 37 = .ok (.ireturn, 1) := by decide +kernel
theorem dX4_reckon_0 : decode cX4_reckon 0 = .ok (.iconst 0, 1) := by decide +kernel
theorem dX4_reckon_1 : decode cX4_reckon 1 = .ok (.istore_n 2, 1) := by decide +kernel
theorem dX4_reckon_2 : decode cX4_reckon 2 = .ok (.iload_n 2, 1) := by decide +kernel
theorem dX4_reckon_3 : decode cX4_reckon 3 = .ok (.bipush 6, 2) := by decide +kernel
theorem dX4_reckon_5 : decode cX4_reckon 5 = .ok (.if_icmp .ge 23, 3) := by decide +kernel
theorem dX4_reckon_8 : decode cX4_reckon 8 = .ok (.aload_n 0, 1) := by decide +kernel
theorem dX4_reckon_9 : decode cX4_reckon 9 = .ok (.getfield 25, 3) := by decide +kernel
theorem dX4_reckon_12 : decode cX4_reckon 12 = .ok (.iload_n 2, 1) := by decide +kernel
theorem dX4_reckon_13 : decode cX4_reckon 13 = .ok (.iconst 0, 1) := by decide +kernel
theorem dX4_reckon_14 : decode cX4_reckon 14 = .ok (.iastore, 1) := by decide +kernel
theorem dX4_reckon_15 : decode cX4_reckon 15 = .ok (.aload_n 0, 1) := by decide +kernel
theorem dX4_reckon_16 : decode cX4_reckon 16 = .ok (.getfield 28, 3) := by decide +kernel
theorem dX4_reckon_19 : decode cX4_reckon 19 = .ok (.iload_n 2, 1) := by decide +kernel
theorem dX4_reckon_20 : decode cX4_reckon 20 = .ok (.iconst 0, 1) := by decide +kernel
theorem dX4_reckon_21 : decode cX4_reckon 21 = .ok (.iastore, 1) := by decide +kernel
theorem dX4_reckon_22 : decode cX4_reckon 22 = .ok (.iinc 2 1, 3) := by decide +kernel
theorem dX4_reckon_25 : decode cX4_reckon 25 = .ok (.goto (-23), 3) := by decide +kernel
theorem dX4_reckon_28 : decode cX4_reckon 28 = .ok (.iconst 0, 1) := by decide +kernel
theorem dX4_reckon_29 : decode cX4_reckon 29 = .ok (.istore_n 2, 1) := by decide +kernel
theorem dX4_reckon_30 : decode cX4_reckon 30 = .ok (.iload_n 2, 1) := by decide +kernel
theorem dX4_reckon_31 : decode cX4_reckon 31 = .ok (.aload_n 0, 1) := by decide +kernel
theorem dX4_reckon_32 : decode cX4_reckon 32 = .ok (.getfield 31, 3) := by decide +kernel
theorem dX4_reckon_35 : decode cX4_reckon 35 = .ok (.if_icmp .ge 36, 3) := by decide +kernel
theorem dX4_reckon_38 : decode cX4_reckon 38 = .ok (.aload_n 0, 1) := by decide +kernel
theorem dX4_reckon_39 : decode cX4_reckon 39 = .ok (.aload_n 1, 1) := by decide +kernel
theorem dX4_reckon_40 : decode cX4_reckon 40 = .ok (.iload_n 2, 1) := by decide +kernel
theorem dX4_reckon_41 : decode cX4_reckon 41 = .ok (.invokevirtual 59, 3) := by decide +kernel
theorem dX4_reckon_44 : decode cX4_reckon 44 = .ok (.iconst 0, 1) := by decide +kernel
theorem dX4_reckon_45 : decode cX4_reckon 45 = .ok (.istore_n 3, 1) := by decide +kernel
theorem dX4_reckon_46 : decode cX4_reckon 46 = .ok (.iload_n 3, 1) := by decide +kernel
theorem dX4_reckon_47 : decode cX4_reckon 47 = .ok (.bipush 6, 2) := by decide +kernel
theorem dX4_reckon_49 : decode cX4_reckon 49 = .ok (.if_icmp .ge 16, 3) := by decide +kernel
theorem dX4_reckon_52 : decode cX4_reckon 52 = .ok (.aload_n 0, 1) := by decide +kernel
theorem dX4_reckon_53 : decode cX4_reckon 53 = .ok (.aload_n 1, 1) := by decide +kernel
theorem dX4_reckon_54 : decode cX4_reckon 54 = .ok (.iload_n 2, 1) := by decide +kernel
theorem dX4_reckon_55 : decode cX4_reckon 55 = .ok (.iload_n 3, 1) := by decide +kernel
theorem dX4_reckon_56 : decode cX4_reckon 56 = .ok (.invokevirtual 63, 3) := by decide +kernel
theorem dX4_reckon_59 : decode cX4_reckon 59 = .ok (.iinc 3 1, 3) := by decide +kernel
theorem dX4_reckon_62 : decode cX4_reckon 62 = .ok (.goto (-16), 3) := by decide +kernel
theorem dX4_reckon_65 : decode cX4_reckon 65 = .ok (.iinc 2 1, 3) := by decide +kernel
theorem dX4_reckon_68 : decode cX4_reckon 68 = .ok (.goto (-38), 3) := by decide +kernel
theorem dX4_reckon_71 : decode cX4_reckon 71 = .ok (.iconst 0, 1) := by decide +kernel
theorem dX4_reckon_72 : decode cX4_reckon 72 = .ok (.istore_n 2, 1) := by decide +kernel
theorem dX4_reckon_73 : decode cX4_reckon 73 = .ok (.iload_n 2, 1) := by decide +kernel
theorem dX4_reckon_74 : decode cX4_reckon 74 = .ok (.bipush 6, 2) := by decide +kernel
theorem dX4_reckon_76 : decode cX4_reckon 76 = .ok (.if_icmp .ge 47, 3) := by decide +kernel
theorem dX4_reckon_79 : decode cX4_reckon 79 = .ok (.iconst 0, 1) := by decide +kernel
theorem dX4_reckon_80 : decode cX4_reckon 80 = .ok (.istore_n 3, 1) := by decide +kernel
theorem dX4_reckon_81 : decode cX4_reckon 81 = .ok (.iload_n 3, 1) := by decide +kernel
theorem dX4_reckon_82 : decode cX4_reckon 82 = .ok (.aload_n 0, 1) := by decide +kernel
theorem dX4_reckon_83 : decode cX4_reckon 83 = .ok (.getfield 67, 3) := by decide +kernel
theorem dX4_reckon_86 : decode cX4_reckon 86 = .ok (.if_icmp .ge 31, 3) := by decide +kernel
theorem dX4_reckon_89 : decode cX4_reckon 89 = .ok (.iload_n 3, 1) := by decide +kernel
theorem dX4_reckon_90 : decode cX4_reckon 90 = .ok (.aload_n 0, 1) := by decide +kernel
theorem dX4_reckon_91 : decode cX4_reckon 91 = .ok (.getfield 31, 3) := by decide +kernel
theorem dX4_reckon_94 : decode cX4_reckon 94 = .ok (.if_icmp .ge 23, 3) := by decide +kernel
theorem dX4_reckon_97 : decode cX4_reckon 97 = .ok (.aload_n 0, 1) := by decide +kernel
theorem dX4_reckon_98 : decode cX4_reckon 98 = .ok (.getfield 25, 3) := by decide +kernel
theorem dX4_reckon_101 : decode cX4_reckon 101 = .ok (.iload_n 2, 1) := by decide +kernel
theorem dX4_reckon_102 : decode cX4_reckon 102 = .ok (.dup2, 1) := by decide +kernel
theorem dX4_reckon_103 : decode cX4_reckon 103 = .ok (.iaload, 1) := by decide +kernel
theorem dX4_reckon_104 : decode cX4_reckon 104 = .ok (.aload_n 0, 1) := by decide +kernel
theorem dX4_reckon_105 : decode cX4_reckon 105 = .ok (.iload_n 2, 1) := by decide +kernel
theorem dX4_reckon_106 : decode cX4_reckon 106 = .ok (.invokevirtual 70, 3) := by decide +kernel
theorem dX4_reckon_109 : decode cX4_reckon 109 = .ok (.isub, 1) := by decide +kernel
theorem dX4_reckon_110 : decode cX4_reckon 110 = .ok (.iastore, 1) := by decide +kernel
theorem dX4_reckon_111 : decode cX4_reckon 111 = .ok (.iinc 3 1, 3) := by decide +kernel
theorem dX4_reckon_114 : decode cX4_reckon 114 = .ok (.goto (-33), 3) := by decide +kernel
theorem dX4_reckon_117 : decode cX4_reckon 117 = .ok (.iinc 2 1, 3) := by decide +kernel
theorem dX4_reckon_120 : decode cX4_reckon 120 = .ok (.goto (-47), 3) := by decide +kernel
theorem dX4_reckon_123 : decode cX4_reckon 123 = .ok (.return_, 1) := by decide +kernel
theorem dX4_score_0 : decode cX4_score 0 = .ok (.iconst 0, 1) := by decide +kernel
theorem dX4_score_1 : decode cX4_score 1 = .ok (.istore 4, 2) := by decide +kernel
theorem dX4_score_3 : decode cX4_score 3 = .ok (.aload_n 0, 1) := by decide +kernel
theorem dX4_score_4 : decode cX4_score 4 = .ok (.getfield 19, 3) := by decide +kernel
theorem dX4_score_7 : decode cX4_score 7 = .ok (.iload_n 3, 1) := by decide +kernel
theorem dX4_score_8 : decode cX4_score 8 = .ok (.iaload, 1) := by decide +kernel
theorem dX4_score_9 : decode cX4_score 9 = .ok (.iconst (-1), 1) := by decide +kernel
theorem dX4_score_10 : decode cX4_score 10 = .ok (.if_icmp .eq 56, 3) := by decide +kernel
theorem dX4_score_13 : decode cX4_score 13 = .ok (.aload_n 0, 1) := by decide +kernel
theorem dX4_score_14 : decode cX4_score 14 = .ok (.aload_n 1, 1) := by decide +kernel
theorem dX4_score_15 : decode cX4_score 15 = .ok (.aload_n 0, 1) := by decide +kernel
theorem dX4_score_16 : decode cX4_score 16 = .ok (.getfield 19, 3) := by decide +kernel
theorem dX4_score_19 : decode cX4_score 19 = .ok (.iload_n 3, 1) := by decide +kernel
theorem dX4_score_20 : decode cX4_score 20 = .ok (.iaload, 1) := by decide +kernel
theorem dX4_score_21 : decode cX4_score 21 = .ok (.invokevirtual 74, 3) := by decide +kernel
theorem dX4_score_24 : decode cX4_score 24 = .ok (.istore 5, 2) := by decide +kernel
theorem dX4_score_26 : decode cX4_score 26 = .ok (.iload 5, 2) := by decide +kernel
theorem dX4_score_28 : decode cX4_score 28 = .ok (.getstatic 78, 3) := by decide +kernel
theorem dX4_score_31 : decode cX4_score 31 = .ok (.arraylength, 1) := by decide +kernel
theorem dX4_score_32 : decode cX4_score 32 = .ok (.if_icmp .ge 12, 3) := by decide +kernel
theorem dX4_score_35 : decode cX4_score 35 = .ok (.getstatic 78, 3) := by decide +kernel
theorem dX4_score_38 : decode cX4_score 38 = .ok (.iload 5, 2) := by decide +kernel
theorem dX4_score_40 : decode cX4_score 40 = .ok (.iaload, 1) := by decide +kernel
theorem dX4_score_41 : decode cX4_score 41 = .ok (.goto 4, 3) := by decide +kernel
theorem dX4_score_44 : decode cX4_score 44 = .ok (.iconst 0, 1) := by decide +kernel
theorem dX4_score_45 : decode cX4_score 45 = .ok (.istore 4, 2) := by decide +kernel
theorem dX4_score_47 : decode cX4_score 47 = .ok (.aload_n 0, 1) := by decide +kernel
theorem dX4_score_48 : decode cX4_score 48 = .ok (.getfield 28, 3) := by decide +kernel
theorem dX4_score_51 : decode cX4_score 51 = .ok (.iload_n 3, 1) := by decide +kernel
theorem dX4_score_52 : decode cX4_score 52 = .ok (.dup2, 1) := by decide +kernel
theorem dX4_score_53 : decode cX4_score 53 = .ok (.iaload, 1) := by decide +kernel
theorem dX4_score_54 : decode cX4_score 54 = .ok (.iload 5, 2) := by decide +kernel
theorem dX4_score_56 : decode cX4_score 56 = .ok (.ifCond .ne 7, 3) := by decide +kernel
theorem dX4_score_59 : decode cX4_score 59 = .ok (.iconst 1, 1) := by decide +kernel
theorem dX4_score_60 : decode cX4_score 60 = .ok (.goto 4, 3) := by decide +kernel
theorem dX4_score_63 : decode cX4_score 63 = .ok (.iconst 0, 1) := by decide +kernel
theorem dX4_score_64 : decode cX4_score 64 = .ok (.iadd, 1) := by decide +kernel
theorem dX4_score_65 : decode cX4_score 65 = .ok (.iastore, 1) := by decide +kernel
theorem dX4_score_66 : decode cX4_score 66 = .ok (.aload_n 0, 1) := by decide +kernel
theorem dX4_score_67 : decode cX4_score 67 = .ok (.getfield 22, 3) := by decide +kernel
theorem dX4_score_70 : decode cX4_score 70 = .ok (.iload_n 3, 1) := by decide +kernel
theorem dX4_score_71 : decode cX4_score 71 = .ok (.bipush 10, 2) := by decide +kernel
theorem dX4_score_73 : decode cX4_score 73 = .ok (.imul, 1) := by decide +kernel
theorem dX4_score_74 : decode cX4_score 74 = .ok (.iload_n 2, 1) := by decide +kernel
theorem dX4_score_75 : decode cX4_score 75 = .ok (.iadd, 1) := by decide +kernel
theorem dX4_score_76 : decode cX4_score 76 = .ok (.iload 4, 2) := by decide +kernel
theorem dX4_score_78 : decode cX4_score 78 = .ok (.iastore, 1) := by decide +kernel
theorem dX4_score_79 : decode cX4_score 79 = .ok (.aload_n 0, 1) := by decide +kernel
theorem dX4_score_80 : decode cX4_score 80 = .ok (.getfield 25, 3) := by decide +kernel
theorem dX4_score_83 : decode cX4_score 83 = .ok (.iload_n 3, 1) := by decide +kernel
theorem dX4_score_84 : decode cX4_score 84 = .ok (.dup2, 1) := by decide +kernel
theorem dX4_score_85 : decode cX4_score 85 = .ok (.iaload, 1) := by decide +kernel
theorem dX4_score_86 : decode cX4_score 86 = .ok (.iload 4, 2) := by decide +kernel
theorem dX4_score_88 : decode cX4_score 88 = .ok (.iadd, 1) := by decide +kernel
theorem dX4_score_89 : decode cX4_score 89 = .ok (.iastore, 1) := by decide +kernel
theorem dX4_score_90 : decode cX4_score 90 = .ok (.return_, 1) := by decide +kernel
theorem dX4_takeLeast_0 : decode cX4_takeLeast 0 = .ok (.iload_n 1, 1) := by decide +kernel
theorem dX4_takeLeast_1 : decode cX4_takeLeast 1 = .ok (.bipush 10, 2) := by decide +kernel
theorem dX4_takeLeast_3 : decode cX4_takeLeast 3 = .ok (.imul, 1) := by decide +kernel
theorem dX4_takeLeast_4 : decode cX4_takeLeast 4 = .ok (.istore_n 2, 1) := by decide +kernel
theorem dX4_takeLeast_5 : decode cX4_takeLeast 5 = .ok (.iload_n 2, 1) := by decide +kernel
theorem dX4_takeLeast_6 : decode cX4_takeLeast 6 = .ok (.istore_n 3, 1) := by decide +kernel
theorem dX4_takeLeast_7 : decode cX4_takeLeast 7 = .ok (.iload_n 2, 1) := by decide +kernel
theorem dX4_takeLeast_8 : decode cX4_takeLeast 8 = .ok (.iconst 1, 1) := by decide +kernel
theorem dX4_takeLeast_9 : decode cX4_takeLeast 9 = .ok (.iadd, 1) := by decide +kernel
theorem dX4_takeLeast_10 : decode cX4_takeLeast 10 = .ok (.istore 4, 2) := by decide +kernel
theorem dX4_takeLeast_12 : decode cX4_takeLeast 12 = .ok (.iload 4, 2) := by decide +kernel
theorem dX4_takeLeast_14 : decode cX4_takeLeast 14 = .ok (.iload_n 2, 1) := by decide +kernel
theorem dX4_takeLeast_15 : decode cX4_takeLeast 15 = .ok (.aload_n 0, 1) := by decide +kernel
theorem dX4_takeLeast_16 : decode cX4_takeLeast 16 = .ok (.getfield 31, 3) := by decide +kernel
theorem dX4_takeLeast_19 : decode cX4_takeLeast 19 = .ok (.iadd, 1) := by decide +kernel
theorem dX4_takeLeast_20 : decode cX4_takeLeast 20 = .ok (.if_icmp .ge 28, 3) := by decide +kernel
theorem dX4_takeLeast_23 : decode cX4_takeLeast 23 = .ok (.aload_n 0, 1) := by decide +kernel
theorem dX4_takeLeast_24 : decode cX4_takeLeast 24 = .ok (.getfield 22, 3) := by decide +kernel
theorem dX4_takeLeast_27 : decode cX4_takeLeast 27 = .ok (.iload 4, 2) := by decide +kernel
theorem dX4_takeLeast_29 : decode cX4_takeLeast 29 = .ok (.iaload, 1) := by decide +kernel
theorem dX4_takeLeast_30 : decode cX4_takeLeast 30 = .ok (.aload_n 0, 1) := by decide +kernel
theorem dX4_takeLeast_31 : decode cX4_takeLeast 31 = .ok (.getfield 22, 3) := by decide +kernel
theorem dX4_takeLeast_34 : decode cX4_takeLeast 34 = .ok (.iload_n 3, 1) := by decide +kernel
theorem dX4_takeLeast_35 : decode cX4_takeLeast 35 = .ok (.iaload, 1) := by decide +kernel
theorem dX4_takeLeast_36 : decode cX4_takeLeast 36 = .ok (.if_icmp .ge 6, 3) := by decide +kernel
theorem dX4_takeLeast_39 : decode cX4_takeLeast 39 = .ok (.iload 4, 2) := by decide +kernel
theorem dX4_takeLeast_41 : decode cX4_takeLeast 41 = .ok (.istore_n 3, 1) := by decide +kernel
theorem dX4_takeLeast_42 : decode cX4_takeLeast 42 = .ok (.iinc 4 1, 3) := by decide +kernel
theorem dX4_takeLeast_45 : decode cX4_takeLeast 45 = .ok (.goto (-33), 3) := by decide +kernel
theorem dX4_takeLeast_48 : decode cX4_takeLeast 48 = .ok (.aload_n 0, 1) := by decide +kernel
theorem dX4_takeLeast_49 : decode cX4_takeLeast 49 = .ok (.getfield 22, 3) := by decide +kernel
theorem dX4_takeLeast_52 : decode cX4_takeLeast 52 = .ok (.iload_n 3, 1) := by decide +kernel
theorem dX4_takeLeast_53 : decode cX4_takeLeast 53 = .ok (.iaload, 1) := by decide +kernel
theorem dX4_takeLeast_54 : decode cX4_takeLeast 54 = .ok (.istore 4, 2) := by decide +kernel
theorem dX4_takeLeast_56 : decode cX4_takeLeast 56 = .ok (.aload_n 0, 1) := by decide +kernel
theorem dX4_takeLeast_57 : decode cX4_takeLeast 57 = .ok (.getfield 22, 3) := by decide +kernel
theorem dX4_takeLeast_60 : decode cX4_takeLeast 60 = .ok (.iload_n 3, 1) := by decide +kernel
theorem dX4_takeLeast_61 : decode cX4_takeLeast 61 = .ok (.bipush 100, 2) := by decide +kernel
theorem dX4_takeLeast_63 : decode cX4_takeLeast 63 = .ok (.iastore, 1) := by decide +kernel
theorem dX4_takeLeast_64 : decode cX4_takeLeast 64 = .ok (.iload 4, 2) := by decide +kernel
theorem dX4_takeLeast_66 : decode cX4_takeLeast 66 = .ok (.ireturn, 1) := by decide +kernel
theorem dX4_driverBehind_0 : decode cX4_driverBehind 0 = .ok (.iconst 0, 1) := by decide +kernel
theorem dX4_driverBehind_1 : decode cX4_driverBehind 1 = .ok (.istore_n 2, 1) := by decide +kernel
theorem dX4_driverBehind_2 : decode cX4_driverBehind 2 = .ok (.iconst 0, 1) := by decide +kernel
theorem dX4_driverBehind_3 : decode cX4_driverBehind 3 = .ok (.istore_n 3, 1) := by decide +kernel
theorem dX4_driverBehind_4 : decode cX4_driverBehind 4 = .ok (.iload_n 3, 1) := by decide +kernel
theorem dX4_driverBehind_5 : decode cX4_driverBehind 5 = .ok (.bipush 6, 2) := by decide +kernel
theorem dX4_driverBehind_7 : decode cX4_driverBehind 7 = .ok (.if_icmp .ge 49, 3) := by decide +kernel
theorem dX4_driverBehind_10 : decode cX4_driverBehind 10 = .ok (.iconst 0, 1) := by decide +kernel
theorem dX4_driverBehind_11 : decode cX4_driverBehind 11 = .ok (.istore 4, 2) := by decide +kernel
theorem dX4_driverBehind_13 : decode cX4_driverBehind 13 = .ok (.iconst 0, 1) := by decide +kernel
theorem dX4_driverBehind_14 : decode cX4_driverBehind 14 = .ok (.istore 5, 2) := by decide +kernel
theorem dX4_driverBehind_16 : decode cX4_driverBehind 16 = .ok (.iload 5, 2) := by decide +kernel
theorem dX4_driverBehind_18 : decode cX4_driverBehind 18 = .ok (.bipush 6, 2) := by decide +kernel
theorem dX4_driverBehind_20 : decode cX4_driverBehind 20 = .ok (.if_icmp .ge 22, 3) := by decide +kernel
theorem dX4_driverBehind_23 : decode cX4_driverBehind 23 = .ok (.aload_n 0, 1) := by decide +kernel
theorem dX4_driverBehind_24 : decode cX4_driverBehind 24 = .ok (.iload 5, 2) := by decide +kernel
theorem dX4_driverBehind_26 : decode cX4_driverBehind 26 = .ok (.iload_n 3, 1) := by decide +kernel
theorem dX4_driverBehind_27 : decode cX4_driverBehind 27 = .ok (.invokevirtual 81, 3) := by decide +kernel
theorem dX4_driverBehind_30 : decode cX4_driverBehind 30 = .ok (.ifCond .eq 6, 3) := by decide +kernel
theorem dX4_driverBehind_33 : decode cX4_driverBehind 33 = .ok (.iinc 4 1, 3) := by decide +kernel
theorem dX4_driverBehind_36 : decode cX4_driverBehind 36 = .ok (.iinc 5 1, 3) := by decide +kernel
theorem dX4_driverBehind_39 : decode cX4_driverBehind 39 = .ok (.goto (-23), 3) := by decide +kernel
theorem dX4_driverBehind_42 : decode cX4_driverBehind 42 = .ok (.iload 4, 2) := by decide +kernel
theorem dX4_driverBehind_44 : decode cX4_driverBehind 44 = .ok (.iload_n 1, 1) := by decide +kernel
theorem dX4_driverBehind_45 : decode cX4_driverBehind 45 = .ok (.if_icmp .ne 5, 3) := by decide +kernel
theorem dX4_driverBehind_48 : decode cX4_driverBehind 48 = .ok (.iload_n 3, 1) := by decide +kernel
theorem dX4_driverBehind_49 : decode cX4_driverBehind 49 = .ok (.istore_n 2, 1) := by decide +kernel
theorem dX4_driverBehind_50 : decode cX4_driverBehind 50 = .ok (.iinc 3 1, 3) := by decide +kernel
theorem dX4_driverBehind_53 : decode cX4_driverBehind 53 = .ok (.goto (-49), 3) := by decide +kernel
theorem dX4_driverBehind_56 : decode cX4_driverBehind 56 = .ok (.iload_n 2, 1) := by decide +kernel
theorem dX4_driverBehind_57 : decode cX4_driverBehind 57 = .ok (.ireturn, 1) := by decide +kernel
theorem dX4_isAheadInSeason_0 : decode cX4_isAheadInSeason 0 = .ok (.aload_n 0, 1) := by decide +kernel
theorem dX4_isAheadInSeason_1 : decode cX4_isAheadInSeason 1 = .ok (.getfield 25, 3) := by decide +kernel
theorem dX4_isAheadInSeason_4 : decode cX4_isAheadInSeason 4 = .ok (.iload_n 1, 1) := by decide +kernel
theorem dX4_isAheadInSeason_5 : decode cX4_isAheadInSeason 5 = .ok (.iaload, 1) := by decide +kernel
theorem dX4_isAheadInSeason_6 : decode cX4_isAheadInSeason 6 = .ok (.aload_n 0, 1) := by decide +kernel
theorem dX4_isAheadInSeason_7 : decode cX4_isAheadInSeason 7 = .ok (.getfield 25, 3) := by decide +kernel
theorem dX4_isAheadInSeason_10 : decode cX4_isAheadInSeason 10 = .ok (.iload_n 2, 1) := by decide +kernel
theorem dX4_isAheadInSeason_11 : decode cX4_isAheadInSeason 11 = .ok (.iaload, 1) := by decide +kernel
theorem dX4_isAheadInSeason_12 : decode cX4_isAheadInSeason 12 = .ok (.if_icmp .eq 24, 3) := by decide +kernel
theorem dX4_isAheadInSeason_15 : decode cX4_isAheadInSeason 15 = .ok (.aload_n 0, 1) := by decide +kernel
theorem dX4_isAheadInSeason_16 : decode cX4_isAheadInSeason 16 = .ok (.getfield 25, 3) := by decide +kernel
theorem dX4_isAheadInSeason_19 : decode cX4_isAheadInSeason 19 = .ok (.iload_n 1, 1) := by decide +kernel
theorem dX4_isAheadInSeason_20 : decode cX4_isAheadInSeason 20 = .ok (.iaload, 1) := by decide +kernel
theorem dX4_isAheadInSeason_21 : decode cX4_isAheadInSeason 21 = .ok (.aload_n 0, 1) := by decide +kernel
theorem dX4_isAheadInSeason_22 : decode cX4_isAheadInSeason 22 = .ok (.getfield 25, 3) := by decide +kernel
theorem dX4_isAheadInSeason_25 : decode cX4_isAheadInSeason 25 = .ok (.iload_n 2, 1) := by decide +kernel
theorem dX4_isAheadInSeason_26 : decode cX4_isAheadInSeason 26 = .ok (.iaload, 1) := by decide +kernel
theorem dX4_isAheadInSeason_27 : decode cX4_isAheadInSeason 27 = .ok (.if_icmp .le 7, 3) := by decide +kernel
theorem dX4_isAheadInSeason_30 : decode cX4_isAheadInSeason 30 = .ok (.iconst 1, 1) := by decide +kernel
theorem dX4_isAheadInSeason_31 : decode cX4_isAheadInSeason 31 = .ok (.goto 4, 3) := by decide +kernel
theorem dX4_isAheadInSeason_34 : decode cX4_isAheadInSeason 34 = .ok (.iconst 0, 1) := by decide +kernel
theorem dX4_isAheadInSeason_35 : decode cX4_isAheadInSeason 35 = .ok (.ireturn, 1) := by decide +kernel
theorem dX4_isAheadInSeason_36 : decode cX4_isAheadInSeason 36 = .ok (.aload_n 0, 1) := by decide +kernel
theorem dX4_isAheadInSeason_37 : decode cX4_isAheadInSeason 37 = .ok (.getfield 28, 3) := by decide +kernel
theorem dX4_isAheadInSeason_40 : decode cX4_isAheadInSeason 40 = .ok (.iload_n 1, 1) := by decide +kernel
theorem dX4_isAheadInSeason_41 : decode cX4_isAheadInSeason 41 = .ok (.iaload, 1) := by decide +kernel
theorem dX4_isAheadInSeason_42 : decode cX4_isAheadInSeason 42 = .ok (.aload_n 0, 1) := by decide +kernel
theorem dX4_isAheadInSeason_43 : decode cX4_isAheadInSeason 43 = .ok (.getfield 28, 3) := by decide +kernel
theorem dX4_isAheadInSeason_46 : decode cX4_isAheadInSeason 46 = .ok (.iload_n 2, 1) := by decide +kernel
theorem dX4_isAheadInSeason_47 : decode cX4_isAheadInSeason 47 = .ok (.iaload, 1) := by decide +kernel
theorem dX4_isAheadInSeason_48 : decode cX4_isAheadInSeason 48 = .ok (.if_icmp .eq 24, 3) := by decide +kernel
theorem dX4_isAheadInSeason_51 : decode cX4_isAheadInSeason 51 = .ok (.aload_n 0, 1) := by decide +kernel
theorem dX4_isAheadInSeason_52 : decode cX4_isAheadInSeason 52 = .ok (.getfield 28, 3) := by decide +kernel
theorem dX4_isAheadInSeason_55 : decode cX4_isAheadInSeason 55 = .ok (.iload_n 1, 1) := by decide +kernel
theorem dX4_isAheadInSeason_56 : decode cX4_isAheadInSeason 56 = .ok (.iaload, 1) := by decide +kernel
theorem dX4_isAheadInSeason_57 : decode cX4_isAheadInSeason 57 = .ok (.aload_n 0, 1) := by decide +kernel
theorem dX4_isAheadInSeason_58 : decode cX4_isAheadInSeason 58 = .ok (.getfield 28, 3) := by decide +kernel
theorem dX4_isAheadInSeason_61 : decode cX4_isAheadInSeason 61 = .ok (.iload_n 2, 1) := by decide +kernel
theorem dX4_isAheadInSeason_62 : decode cX4_isAheadInSeason 62 = .ok (.iaload, 1) := by decide +kernel
theorem dX4_isAheadInSeason_63 : decode cX4_isAheadInSeason 63 = .ok (.if_icmp .le 7, 3) := by decide +kernel
theorem dX4_isAheadInSeason_66 : decode cX4_isAheadInSeason 66 = .ok (.iconst 1, 1) := by decide +kernel
theorem dX4_isAheadInSeason_67 : decode cX4_isAheadInSeason 67 = .ok (.goto 4, 3) := by decide +kernel
theorem dX4_isAheadInSeason_70 : decode cX4_isAheadInSeason 70 = .ok (.iconst 0, 1) := by decide +kernel
theorem dX4_isAheadInSeason_71 : decode cX4_isAheadInSeason 71 = .ok (.ireturn, 1) := by decide +kernel
theorem dX4_isAheadInSeason_72 : decode cX4_isAheadInSeason 72 = .ok (.iload_n 1, 1) := by decide +kernel
theorem dX4_isAheadInSeason_73 : decode cX4_isAheadInSeason 73 = .ok (.iload_n 2, 1) := by decide +kernel
theorem dX4_isAheadInSeason_74 : decode cX4_isAheadInSeason 74 = .ok (.if_icmp .ge 7, 3) := by decide +kernel
theorem dX4_isAheadInSeason_77 : decode cX4_isAheadInSeason 77 = .ok (.iconst 1, 1) := by decide +kernel
theorem dX4_isAheadInSeason_78 : decode cX4_isAheadInSeason 78 = .ok (.goto 4, 3) := by decide +kernel
theorem dX4_isAheadInSeason_81 : decode cX4_isAheadInSeason 81 = .ok (.iconst 0, 1) := by decide +kernel
theorem dX4_isAheadInSeason_82 : decode cX4_isAheadInSeason 82 = .ok (.ireturn, 1) := by decide +kernel
theorem dX5_init_0 : decode cX5_init 0 = .ok (.aload_n 0, 1) := by decide +kernel
theorem dX5_init_1 : decode cX5_init 1 = .ok (.invokespecial 3, 3) := by decide +kernel
theorem dX5_init_4 : decode cX5_init 4 = .ok (.aload_n 0, 1) := by decide +kernel
theorem dX5_init_5 : decode cX5_init 5 = .ok (.bipush 12, 2) := by decide +kernel
theorem dX5_init_7 : decode cX5_init 7 = .ok (.newarray .int, 2) := by decide +kernel
theorem dX5_init_9 : decode cX5_init 9 = .ok (.putfield 9, 3) := by decide +kernel
theorem dX5_init_12 : decode cX5_init 12 = .ok (.aload_n 0, 1) := by decide +kernel
theorem dX5_init_13 : decode cX5_init 13 = .ok (.bipush 12, 2) := by decide +kernel
theorem dX5_init_15 : decode cX5_init 15 = .ok (.newarray .int, 2) := by decide +kernel
theorem dX5_init_17 : decode cX5_init 17 = .ok (.putfield 15, 3) := by decide +kernel
theorem dX5_init_20 : decode cX5_init 20 = .ok (.return_, 1) := by decide +kernel
theorem dX5_append_0 : decode cX5_append 0 = .ok (.aload_n 0, 1) := by decide +kernel
theorem dX5_append_1 : decode cX5_append 1 = .ok (.getfield 18, 3) := by decide +kernel
theorem dX5_append_4 : decode cX5_append 4 = .ok (.bipush 12, 2) := by decide +kernel
theorem dX5_append_6 : decode cX5_append 6 = .ok (.if_icmp .ge 46, 3) := by decide +kernel
theorem dX5_append_9 : decode cX5_append 9 = .ok (.aload_n 0, 1) := by decide +kernel
theorem dX5_append_10 : decode cX5_append 10 = .ok (.dup, 1) := by decide +kernel
theorem dX5_append_11 : decode cX5_append 11 = .ok (.getfield 22, 3) := by decide +kernel
theorem dX5_append_14 : decode cX5_append 14 = .ok (.iload_n 1, 1) := by decide +kernel
theorem dX5_append_15 : decode cX5_append 15 = .ok (.iadd, 1) := by decide +kernel
theorem dX5_append_16 : decode cX5_append 16 = .ok (.putfield 22, 3) := by decide +kernel
theorem dX5_append_19 : decode cX5_append 19 = .ok (.aload_n 0, 1) := by decide +kernel
theorem dX5_append_20 : decode cX5_append 20 = .ok (.getfield 9, 3) := by decide +kernel
theorem dX5_append_23 : decode cX5_append 23 = .ok (.aload_n 0, 1) := by decide +kernel
theorem dX5_append_24 : decode cX5_append 24 = .ok (.getfield 18, 3) := by decide +kernel
theorem dX5_append_27 : decode cX5_append 27 = .ok (.aload_n 0, 1) := by decide +kernel
theorem dX5_append_28 : decode cX5_append 28 = .ok (.getfield 22, 3) := by decide +kernel
theorem dX5_append_31 : decode cX5_append 31 = .ok (.iastore, 1) := by decide +kernel
theorem dX5_append_32 : decode cX5_append 32 = .ok (.aload_n 0, 1) := by decide +kernel
theorem dX5_append_33 : decode cX5_append 33 = .ok (.getfield 15, 3) := by decide +kernel
theorem dX5_append_36 : decode cX5_append 36 = .ok (.aload_n 0, 1) := by decide +kernel
theorem dX5_append_37 : decode cX5_append 37 = .ok (.getfield 18, 3) := by decide +kernel
theorem dX5_append_40 : decode cX5_append 40 = .ok (.iload_n 2, 1) := by decide +kernel
theorem dX5_append_41 : decode cX5_append 41 = .ok (.iastore, 1) := by decide +kernel
theorem dX5_append_42 : decode cX5_append 42 = .ok (.aload_n 0, 1) := by decide +kernel
theorem dX5_append_43 : decode cX5_append 43 = .ok (.dup, 1) := by decide +kernel
theorem dX5_append_44 : decode cX5_append 44 = .ok (.getfield 18, 3) := by decide +kernel
theorem dX5_append_47 : decode cX5_append 47 = .ok (.iconst 1, 1) := by decide +kernel
theorem dX5_append_48 : decode cX5_append 48 = .ok (.iadd, 1) := by decide +kernel
theorem dX5_append_49 : decode cX5_append 49 = .ok (.putfield 18, 3) := by decide +kernel
theorem dX5_append_52 : decode cX5_append 52 = .ok (.return_, 1) := by decide +kernel
theorem dX5_limitOf_0 : decode cX5_limitOf 0 = .ok (.iconst 0, 1) := by decide +kernel
theorem dX5_limitOf_1 : decode cX5_limitOf 1 = .ok (.istore_n 2, 1) := by decide +kernel
theorem dX5_limitOf_2 : decode cX5_limitOf 2 = .ok (.iload_n 2, 1) := by decide +kernel
theorem dX5_limitOf_3 : decode cX5_limitOf 3 = .ok (.aload_n 0, 1) := by decide +kernel
theorem dX5_limitOf_4 : decode cX5_limitOf 4 = .ok (.getfield 18, 3) := by decide +kernel
theorem dX5_limitOf_7 : decode cX5_limitOf 7 = .ok (.if_icmp .ge 26, 3) := by decide +kernel
theorem dX5_limitOf_10 : decode cX5_limitOf 10 = .ok (.iload_n 1, 1) := by decide +kernel
theorem dX5_limitOf_11 : decode cX5_limitOf 11 = .ok (.aload_n 0, 1) := by decide +kernel
theorem dX5_limitOf_12 : decode cX5_limitOf 12 = .ok (.getfield 9, 3) := by decide +kernel
theorem dX5_limitOf_15 : decode cX5_limitOf 15 = .ok (.iload_n 2, 1) := by decide +kernel
theorem dX5_limitOf_16 : decode cX5_limitOf 16 = .ok (.iaload, 1) := by decide +kernel
theorem dX5_limitOf_17 : decode cX5_limitOf 17 = .ok (.if_icmp .ge 10, 3) := by decide +kernel
theorem dX5_limitOf_20 : decode cX5_limitOf 20 = .ok (.aload_n 0, 1) := by decide +kernel
theorem dX5_limitOf_21 : decode cX5_limitOf 21 = .ok (.getfield 15, 3) := by decide +kernel
theorem dX5_limitOf_24 : decode cX5_limitOf 24 = .ok (.iload_n 2, 1) := by decide +kernel
theorem dX5_limitOf_25 : decode cX5_limitOf 25 = .ok (.iaload, 1) := by decide +kernel
theorem dX5_limitOf_26 : decode cX5_limitOf 26 = .ok (.ireturn, 1) := by decide +kernel
theorem dX5_limitOf_27 : decode cX5_limitOf 27 = .ok (.iinc 2 1, 3) := by decide +kernel
theorem dX5_limitOf_30 : decode cX5_limitOf 30 = .ok (.goto (-28), 3) := by decide +kernel
theorem dX5_limitOf_33 : decode cX5_limitOf 33 = .ok (.iconst 0, 1) := by decide +kernel
theorem dX5_limitOf_34 : decode cX5_limitOf 34 = .ok (.ireturn, 1) := by decide +kernel
theorem dX6_init_0 : decode cX6_init 0 = .ok (.aload_n 0, 1) := by decide +kernel
theorem dX6_init_1 : decode cX6_init 1 = .ok (.invokespecial 1, 3) := by decide +kernel
theorem dX6_init_4 : decode cX6_init 4 = .ok (.aload_n 0, 1) := by decide +kernel
theorem dX6_init_5 : decode cX6_init 5 = .ok (.iconst 4, 1) := by decide +kernel
theorem dX6_init_6 : decode cX6_init 6 = .ok (.anewarray 9, 3) := by decide +kernel
theorem dX6_init_9 : decode cX6_init 9 = .ok (.putfield 11, 3) := by decide +kernel
theorem dX6_init_12 : decode cX6_init 12 = .ok (.aload_n 0, 1) := by decide +kernel
theorem dX6_init_13 : decode cX6_init 13 = .ok (.iconst 4, 1) := by decide +kernel
theorem dX6_init_14 : decode cX6_init 14 = .ok (.anewarray 15, 3) := by decide +kernel
theorem dX6_init_17 : decode cX6_init 17 = .ok (.putfield 17, 3) := by decide +kernel
theorem dX6_init_20 : decode cX6_init 20 = .ok (.aload_n 0, 1) := by decide +kernel
theorem dX6_init_21 : decode cX6_init 21 = .ok (.bipush 60, 2) := by decide +kernel
theorem dX6_init_23 : decode cX6_init 23 = .ok (.newarray .char, 2) := by decide +kernel
theorem dX6_init_25 : decode cX6_init 25 = .ok (.putfield 21, 3) := by decide +kernel
theorem dX6_init_28 : decode cX6_init 28 = .ok (.aload_n 0, 1) := by decide +kernel
theorem dX6_init_29 : decode cX6_init 29 = .ok (.new 25, 3) := by decide +kernel
theorem dX6_init_32 : decode cX6_init 32 = .ok (.dup, 1) := by decide +kernel
theorem dX6_init_33 : decode cX6_init 33 = .ok (.invokespecial 27, 3) := by decide +kernel
theorem dX6_init_36 : decode cX6_init 36 = .ok (.putfield 28, 3) := by decide +kernel
theorem dX6_init_39 : decode cX6_init 39 = .ok (.aload_n 0, 1) := by decide +kernel
theorem dX6_init_40 : decode cX6_init 40 = .ok (.new 32, 3) := by decide +kernel
theorem dX6_init_43 : decode cX6_init 43 = .ok (.dup, 1) := by decide +kernel
theorem dX6_init_44 : decode cX6_init 44 = .ok (.invokespecial 34, 3) := by decide +kernel
theorem dX6_init_47 : decode cX6_init 47 = .ok (.putfield 35, 3) := by decide +kernel
theorem dX6_init_50 : decode cX6_init 50 = .ok (.aload_n 0, 1) := by decide +kernel
theorem dX6_init_51 : decode cX6_init 51 = .ok (.new 39, 3) := by decide +kernel
theorem dX6_init_54 : decode cX6_init 54 = .ok (.dup, 1) := by decide +kernel
theorem dX6_init_55 : decode cX6_init 55 = .ok (.invokespecial 41, 3) := by decide +kernel
theorem dX6_init_58 : decode cX6_init 58 = .ok (.putfield 42, 3) := by decide +kernel
theorem dX6_init_61 : decode cX6_init 61 = .ok (.iconst 0, 1) := by decide +kernel
theorem dX6_init_62 : decode cX6_init 62 = .ok (.istore_n 1, 1) := by decide +kernel
theorem dX6_init_63 : decode cX6_init 63 = .ok (.iload_n 1, 1) := by decide +kernel
theorem dX6_init_64 : decode cX6_init 64 = .ok (.iconst 4, 1) := by decide +kernel
theorem dX6_init_65 : decode cX6_init 65 = .ok (.if_icmp .ge 22, 3) := by decide +kernel
theorem dX6_init_68 : decode cX6_init 68 = .ok (.aload_n 0, 1) := by decide +kernel
theorem dX6_init_69 : decode cX6_init 69 = .ok (.getfield 11, 3) := by decide +kernel
theorem dX6_init_72 : decode cX6_init 72 = .ok (.iload_n 1, 1) := by decide +kernel
theorem dX6_init_73 : decode cX6_init 73 = .ok (.new 9, 3) := by decide +kernel
theorem dX6_init_76 : decode cX6_init 76 = .ok (.dup, 1) := by decide +kernel
theorem dX6_init_77 : decode cX6_init 77 = .ok (.invokespecial 46, 3) := by decide +kernel
theorem dX6_init_80 : decode cX6_init 80 = .ok (.aastore, 1) := by decide +kernel
theorem dX6_init_81 : decode cX6_init 81 = .ok (.iinc 1 1, 3) := by decide +kernel
theorem dX6_init_84 : decode cX6_init 84 = .ok (.goto (-21), 3) := by decide +kernel
theorem dX6_init_87 : decode cX6_init 87 = .ok (.iconst 0, 1) := by decide +kernel
theorem dX6_init_88 : decode cX6_init 88 = .ok (.istore_n 1, 1) := by decide +kernel
theorem dX6_init_89 : decode cX6_init 89 = .ok (.iload_n 1, 1) := by decide +kernel
theorem dX6_init_90 : decode cX6_init 90 = .ok (.iconst 4, 1) := by decide +kernel
theorem dX6_init_91 : decode cX6_init 91 = .ok (.if_icmp .ge 22, 3) := by decide +kernel
theorem dX6_init_94 : decode cX6_init 94 = .ok (.aload_n 0, 1) := by decide +kernel
theorem dX6_init_95 : decode cX6_init 95 = .ok (.getfield 17, 3) := by decide +kernel
theorem dX6_init_98 : decode cX6_init 98 = .ok (.iload_n 1, 1) := by decide +kernel
theorem dX6_init_99 : decode cX6_init 99 = .ok (.new 15, 3) := by decide +kernel
theorem dX6_init_102 : decode cX6_init 102 = .ok (.dup, 1) := by decide +kernel
theorem dX6_init_103 : decode cX6_init 103 = .ok (.invokespecial 47, 3) := by decide +kernel
theorem dX6_init_106 : decode cX6_init 106 = .ok (.aastore, 1) := by decide +kernel
theorem dX6_init_107 : decode cX6_init 107 = .ok (.iinc 1 1, 3) := by decide +kernel
theorem dX6_init_110 : decode cX6_init 110 = .ok (.goto (-21), 3) := by decide +kernel
theorem dX6_init_113 : decode cX6_init 113 = .ok (.return_, 1) := by decide +kernel
theorem dX6_track_0 : decode cX6_track 0 = .ok (.aload_n 0, 1) := by decide +kernel
theorem dX6_track_1 : decode cX6_track 1 = .ok (.getfield 48, 3) := by decide +kernel
theorem dX6_track_4 : decode cX6_track 4 = .ok (.iconst 4, 1) := by decide +kernel
theorem dX6_track_5 : decode cX6_track 5 = .ok (.if_icmp .lt 13, 3) := by decide +kernel
theorem dX6_track_8 : decode cX6_track 8 = .ok (.new 52, 3) := by decide +kernel
theorem dX6_track_11 : decode cX6_track 11 = .ok (.dup, 1) := by decide +kernel
theorem dX6_track_12 : decode cX6_track 12 = .ok (.ldc 54, 2) := by decide +kernel
theorem dX6_track_14 : decode cX6_track 14 = .ok (.invokespecial 56, 3) := by decide +kernel
theorem dX6_track_17 : decode cX6_track 17 = .ok (.athrow, 1) := by decide +kernel
theorem dX6_track_18 : decode cX6_track 18 = .ok (.aload_n 0, 1) := by decide +kernel
theorem dX6_track_19 : decode cX6_track 19 = .ok (.dup, 1) := by decide +kernel
theorem dX6_track_20 : decode cX6_track 20 = .ok (.getfield 48, 3) := by decide +kernel
theorem dX6_track_23 : decode cX6_track 23 = .ok (.iconst 1, 1) := by decide +kernel
theorem dX6_track_24 : decode cX6_track 24 = .ok (.iadd, 1) := by decide +kernel
theorem dX6_track_25 : decode cX6_track 25 = .ok (.putfield 48, 3) := by decide +kernel
theorem dX6_track_28 : decode cX6_track 28 = .ok (.aload_n 0, 1) := by decide +kernel
theorem dX6_track_29 : decode cX6_track 29 = .ok (.getfield 48, 3) := by decide +kernel
theorem dX6_track_32 : decode cX6_track 32 = .ok (.iconst 1, 1) := by decide +kernel
theorem dX6_track_33 : decode cX6_track 33 = .ok (.isub, 1) := by decide +kernel
theorem dX6_track_34 : decode cX6_track 34 = .ok (.ireturn, 1) := by decide +kernel
theorem dX6_stretch_0 : decode cX6_stretch 0 = .ok (.aload_n 0, 1) := by decide +kernel
theorem dX6_stretch_1 : decode cX6_stretch 1 = .ok (.iload_n 1, 1) := by decide +kernel
theorem dX6_stretch_2 : decode cX6_stretch 2 = .ok (.invokevirtual 59, 3) := by decide +kernel
theorem dX6_stretch_5 : decode cX6_stretch 5 = .ok (.astore 4, 2) := by decide +kernel
theorem dX6_stretch_7 : decode cX6_stretch 7 = .ok (.iload_n 2, 1) := by decide +kernel
theorem dX6_stretch_8 : decode cX6_stretch 8 = .ok (.iconst 1, 1) := by decide +kernel
theorem dX6_stretch_9 : decode cX6_stretch 9 = .ok (.bipush 30, 2) := by decide +kernel
theorem dX6_stretch_11 : decode cX6_stretch 11 = .ok (.invokestatic 63, 3) := by decide +kernel
theorem dX6_stretch_14 : decode cX6_stretch 14 = .ok (.ifCond .eq 13, 3) := by decide +kernel
theorem dX6_stretch_17 : decode cX6_stretch 17 = .ok (.iload_n 3, 1) := by decide +kernel
theorem dX6_stretch_18 : decode cX6_stretch 18 = .ok (.iconst 1, 1) := by decide +kernel
theorem dX6_stretch_19 : decode cX6_stretch 19 = .ok (.bipush 9, 2) := by decide +kernel
theorem dX6_stretch_21 : decode cX6_stretch 21 = .ok (.invokestatic 63, 3) := by decide +kernel
theorem dX6_stretch_24 : decode cX6_stretch 24 = .ok (.ifCond .ne 13, 3) := by decide +kernel
theorem dX6_stretch_27 : decode cX6_stretch 27 = .ok (.new 67, 3) := by decide +kernel
theorem dX6_stretch_30 : decode cX6_stretch 30 = .ok (.dup, 1) := by decide +kernel
theorem dX6_stretch_31 : decode cX6_stretch 31 = .ok (.ldc 69, 2) := by decide +kernel
theorem dX6_stretch_33 : decode cX6_stretch 33 = .ok (.invokespecial 71, 3) := by decide +kernel
theorem dX6_stretch_36 : decode cX6_stretch 36 = .ok (.athrow, 1) := by decide +kernel
theorem dX6_stretch_37 : decode cX6_stretch 37 = .ok (.aload 4, 2) := by decide +kernel
theorem dX6_stretch_39 : decode cX6_stretch 39 = .ok (.getfield 72, 3) := by decide +kernel
theorem dX6_stretch_42 : decode cX6_stretch 42 = .ok (.ifCond .eq 13, 3) := by decide +kernel
theorem dX6_stretch_45 : decode cX6_stretch 45 = .ok (.new 76, 3) := by decide +kernel
theorem dX6_stretch_48 : decode cX6_stretch 48 = .ok (.dup, 1) := by decide +kernel
theorem dX6_stretch_49 : decode cX6_stretch 49 = .ok (.ldc 78, 2) := by decide +kernel
theorem dX6_stretch_51 : decode cX6_stretch 51 = .ok (.invokespecial 80, 3) := by decide +kernel
theorem dX6_stretch_54 : decode cX6_stretch 54 = .ok (.athrow, 1) := by decide +kernel
theorem dX6_stretch_55 : decode cX6_stretch 55 = .ok (.aload 4, 2) := by decide +kernel
theorem dX6_stretch_57 : decode cX6_stretch 57 = .ok (.getfield 81, 3) := by decide +kernel
theorem dX6_stretch_60 : decode cX6_stretch 60 = .ok (.bipush 12, 2) := by decide +kernel
theorem dX6_stretch_62 : decode cX6_stretch 62 = .ok (.if_icmp .lt 13, 3) := by decide +kernel
theorem dX6_stretch_65 : decode cX6_stretch 65 = .ok (.new 52, 3) := by decide +kernel
theorem dX6_stretch_68 : decode cX6_stretch 68 = .ok (.dup, 1) := by decide +kernel
theorem dX6_stretch_69 : decode cX6_stretch 69 = .ok (.ldc 84, 2) := by decide +kernel
theorem dX6_stretch_71 : decode cX6_stretch 71 = .ok (.invokespecial 56, 3) := by decide +kernel
theorem dX6_stretch_74 : decode cX6_stretch 74 = .ok (.athrow, 1) := by decide +kernel
theorem dX6_stretch_75 : decode cX6_stretch 75 = .ok (.aload 4, 2) := by decide +kernel
theorem dX6_stretch_77 : decode cX6_stretch 77 = .ok (.iload_n 2, 1) := by decide +kernel
theorem dX6_stretch_78 : decode cX6_stretch 78 = .ok (.iload_n 3, 1) := by decide +kernel
theorem dX6_stretch_79 : decode cX6_stretch 79 = .ok (.invokevirtual 86, 3) := by decide +kernel
theorem dX6_stretch_82 : decode cX6_stretch 82 = .ok (.aload 4, 2) := by decide +kernel
theorem dX6_stretch_84 : decode cX6_stretch 84 = .ok (.getfield 90, 3) := by decide +kernel
theorem dX6_stretch_87 : decode cX6_stretch 87 = .ok (.ireturn, 1) := by decide +kernel
theorem dX6_car_0 : decode cX6_car 0 = .ok (.iload_n 1, 1) := by decide +kernel
theorem dX6_car_1 : decode cX6_car 1 = .ok (.iconst 1, 1) := by decide +kernel
theorem dX6_car_2 : decode cX6_car 2 = .ok (.bipush 9, 2) := by decide +kernel
theorem dX6_car_4 : decode cX6_car 4 = .ok (.invokestatic 63, 3) := by decide +kernel
theorem dX6_car_7 : decode cX6_car 7 = .ok (.ifCond .eq 21, 3) := by decide +kernel
theorem dX6_car_10 : decode cX6_car 10 = .ok (.iload_n 2, 1) := by decide +kernel
theorem dX6_car_11 : decode cX6_car 11 = .ok (.iconst 1, 1) := by decide +kernel
theorem dX6_car_12 : decode cX6_car 12 = .ok (.iconst 4, 1) := by decide +kernel
theorem dX6_car_13 : decode cX6_car 13 = .ok (.invokestatic 63, 3) := by decide +kernel
theorem dX6_car_16 : decode cX6_car 16 = .ok (.ifCond .eq 12, 3) := by decide +kernel
theorem dX6_car_19 : decode cX6_car 19 = .ok (.iload_n 3, 1) := by decide +kernel
theorem dX6_car_20 : decode cX6_car 20 = .ok (.iconst 0, 1) := by decide +kernel
theorem dX6_car_21 : decode cX6_car 21 = .ok (.iconst 3, 1) := by decide +kernel
theorem dX6_car_22 : decode cX6_car 22 = .ok (.invokestatic 63, 3) := by decide +kernel
theorem dX6_car_25 : decode cX6_car 25 = .ok (.ifCond .ne 13, 3) := by decide +kernel
theorem dX6_car_28 : decode cX6_car 28 = .ok (.new 67, 3) := by decide +kernel
theorem dX6_car_31 : decode cX6_car 31 = .ok (.dup, 1) := by decide +kernel
theorem dX6_car_32 : decode cX6_car 32 = .ok (.ldc 93, 2) := by decide +kernel
theorem dX6_car_34 : decode cX6_car 34 = .ok (.invokespecial 71, 3) := by decide +kernel
theorem dX6_car_37 : decode cX6_car 37 = .ok (.athrow, 1) := by decide +kernel
theorem dX6_car_38 : decode cX6_car 38 = .ok (.aload_n 0, 1) := by decide +kernel
theorem dX6_car_39 : decode cX6_car 39 = .ok (.getfield 95, 3) := by decide +kernel
theorem dX6_car_42 : decode cX6_car 42 = .ok (.iconst 4, 1) := by decide +kernel
theorem dX6_car_43 : decode cX6_car 43 = .ok (.if_icmp .lt 13, 3) := by decide +kernel
theorem dX6_car_46 : decode cX6_car 46 = .ok (.new 52, 3) := by decide +kernel
theorem dX6_car_49 : decode cX6_car 49 = .ok (.dup, 1) := by decide +kernel
theorem dX6_car_50 : decode cX6_car 50 = .ok (.ldc 98, 2) := by decide +kernel
theorem dX6_car_52 : decode cX6_car 52 = .ok (.invokespecial 56, 3) := by decide +kernel
theorem dX6_car_55 : decode cX6_car 55 = .ok (.athrow, 1) := by decide +kernel
theorem dX6_car_56 : decode cX6_car 56 = .ok (.aload_n 0, 1) := by decide +kernel
theorem dX6_car_57 : decode cX6_car 57 = .ok (.getfield 17, 3) := by decide +kernel
theorem dX6_car_60 : decode cX6_car 60 = .ok (.aload_n 0, 1) := by decide +kernel
theorem dX6_car_61 : decode cX6_car 61 = .ok (.getfield 95, 3) := by decide +kernel
theorem dX6_car_64 : decode cX6_car 64 = .ok (.aaload, 1) := by decide +kernel
theorem dX6_car_65 : decode cX6_car 65 = .ok (.astore 4, 2) := by decide +kernel
theorem dX6_car_67 : decode cX6_car 67 = .ok (.aload 4, 2) := by decide +kernel
theorem dX6_car_69 : decode cX6_car 69 = .ok (.iload_n 1, 1) := by decide +kernel
theorem dX6_car_70 : decode cX6_car 70 = .ok (.putfield 100, 3) := by decide +kernel
theorem dX6_car_73 : decode cX6_car 73 = .ok (.aload 4, 2) := by decide +kernel
theorem dX6_car_75 : decode cX6_car 75 = .ok (.iload_n 2, 1) := by decide +kernel
theorem dX6_car_76 : decode cX6_car 76 = .ok (.putfield 103, 3) := by decide +kernel
theorem dX6_car_79 : decode cX6_car 79 = .ok (.aload 4, 2) := by decide +kernel
theorem dX6_car_81 : decode cX6_car 81 = .ok (.iload_n 3, 1) := by decide +kernel
theorem dX6_car_82 : decode cX6_car 82 = .ok (.putfield 106, 3) := by decide +kernel
theorem dX6_car_85 : decode cX6_car 85 = .ok (.aload_n 0, 1) := by decide +kernel
theorem dX6_car_86 : decode cX6_car 86 = .ok (.dup, 1) := by decide +kernel
theorem dX6_car_87 : decode cX6_car 87 = .ok (.getfield 95, 3) := by decide +kernel
theorem dX6_car_90 : decode cX6_car 90 = .ok (.iconst 1, 1) := by decide +kernel
theorem dX6_car_91 : decode cX6_car 91 = .ok (.iadd, 1) := by decide +kernel
theorem dX6_car_92 : decode cX6_car 92 = .ok (.putfield 95, 3) := by decide +kernel
theorem dX6_car_95 : decode cX6_car 95 = .ok (.aload_n 0, 1) := by decide +kernel
theorem dX6_car_96 : decode cX6_car 96 = .ok (.getfield 95, 3) := by decide +kernel
theorem dX6_car_99 : decode cX6_car 99 = .ok (.iconst 1, 1) := by decide +kernel
theorem dX6_car_100 : decode cX6_car 100 = .ok (.isub, 1) := by decide +kernel
theorem dX6_car_101 : decode cX6_car 101 = .ok (.ireturn, 1) := by decide +kernel
theorem dX6_lengthOf_0 : decode cX6_lengthOf 0 = .ok (.aload_n 0, 1) := by decide +kernel
theorem dX6_lengthOf_1 : decode cX6_lengthOf 1 = .ok (.iload_n 1, 1) := by decide +kernel
theorem dX6_lengthOf_2 : decode cX6_lengthOf 2 = .ok (.invokevirtual 59, 3) := by decide +kernel
theorem dX6_lengthOf_5 : decode cX6_lengthOf 5 = .ok (.getfield 90, 3) := by decide +kernel
theorem dX6_lengthOf_8 : decode cX6_lengthOf 8 = .ok (.ireturn, 1) := by decide +kernel
theorem dX6_limitAt_0 : decode cX6_limitAt 0 = .ok (.aload_n 0, 1) := by decide +kernel
theorem dX6_limitAt_1 : decode cX6_limitAt 1 = .ok (.iload_n 1, 1) := by decide +kernel
theorem dX6_limitAt_2 : decode cX6_limitAt 2 = .ok (.invokevirtual 59, 3) := by decide +kernel
theorem dX6_limitAt_5 : decode cX6_limitAt 5 = .ok (.astore_n 3, 1) := by decide +kernel
theorem dX6_limitAt_6 : decode cX6_limitAt 6 = .ok (.iload_n 2, 1) := by decide +kernel
theorem dX6_limitAt_7 : decode cX6_limitAt 7 = .ok (.ifCond .lt 11, 3) := by decide +kernel
theorem dX6_limitAt_10 : decode cX6_limitAt 10 = .ok (.iload_n 2, 1) := by decide +kernel
theorem dX6_limitAt_11 : decode cX6_limitAt 11 = .ok (.aload_n 3, 1) := by decide +kernel
theorem dX6_limitAt_12 : decode cX6_limitAt 12 = .ok (.getfield 90, 3) := by decide +kernel
theorem dX6_limitAt_15 : decode cX6_limitAt 15 = .ok (.if_icmp .lt 13, 3) := by decide +kernel
theorem dX6_limitAt_18 : decode cX6_limitAt 18 = .ok (.new 109, 3) := by decide +kernel
theorem dX6_limitAt_21 : decode cX6_limitAt 21 = .ok (.dup, 1) := by decide +kernel
theorem dX6_limitAt_22 : decode cX6_limitAt 22 = .ok (.ldc 111, 2) := by decide +kernel
theorem dX6_limitAt_24 : decode cX6_limitAt 24 = .ok (.invokespecial 113, 3) := by decide +kernel
theorem dX6_limitAt_27 : decode cX6_limitAt 27 = .ok (.athrow, 1) := by decide +kernel
theorem dX6_limitAt_28 : decode cX6_limitAt 28 = .ok (.aload_n 3, 1) := by decide +kernel
theorem dX6_limitAt_29 : decode cX6_limitAt 29 = .ok (.iload_n 2, 1) := by decide +kernel
theorem dX6_limitAt_30 : decode cX6_limitAt 30 = .ok (.invokevirtual 114, 3) := by decide +kernel
theorem dX6_limitAt_33 : decode cX6_limitAt 33 = .ok (.ireturn, 1) := by decide +kernel
theorem dX6_type_0 : decode cX6_type 0 = .ok (.iload_n 1, 1) := by decide +kernel
theorem dX6_type_1 : decode cX6_type 1 = .ok (.bipush 43, 2) := by decide +kernel
theorem dX6_type_3 : decode cX6_type 3 = .ok (.if_icmp .eq 15, 3) := by decide +kernel
theorem dX6_type_6 : decode cX6_type 6 = .ok (.iload_n 1, 1) := by decide +kernel
theorem dX6_type_7 : decode cX6_type 7 = .ok (.bipush 45, 2) := by decide +kernel
theorem dX6_type_9 : decode cX6_type 9 = .ok (.if_icmp .eq 9, 3) := by decide +kernel
theorem dX6_type_12 : decode cX6_type 12 = .ok (.iload_n 1, 1) := by decide +kernel
theorem dX6_type_13 : decode cX6_type 13 = .ok (.bipush 61, 2) := by decide +kernel
theorem dX6_type_15 : decode cX6_type 15 = .ok (.if_icmp .ne 7, 3) := by decide +kernel
theorem dX6_type_18 : decode cX6_type 18 = .ok (.iconst 1, 1) := by decide +kernel
theorem dX6_type_19 : decode cX6_type 19 = .ok (.goto 4, 3) := by decide +kernel
theorem dX6_type_22 : decode cX6_type 22 = .ok (.iconst 0, 1) := by decide +kernel
theorem dX6_type_23 : decode cX6_type 23 = .ok (.istore_n 3, 1) := by decide +kernel
theorem dX6_type_24 : decode cX6_type 24 = .ok (.iload_n 3, 1) := by decide +kernel
theorem dX6_type_25 : decode cX6_type 25 = .ok (.ifCond .eq 13, 3) := by decide +kernel
theorem dX6_type_28 : decode cX6_type 28 = .ok (.iload_n 2, 1) := by decide +kernel
theorem dX6_type_29 : decode cX6_type 29 = .ok (.iconst 1, 1) := by decide +kernel
theorem dX6_type_30 : decode cX6_type 30 = .ok (.bipush 20, 2) := by decide +kernel
theorem dX6_type_32 : decode cX6_type 32 = .ok (.invokestatic 63, 3) := by decide +kernel
theorem dX6_type_35 : decode cX6_type 35 = .ok (.ifCond .ne 13, 3) := by decide +kernel
theorem dX6_type_38 : decode cX6_type 38 = .ok (.new 67, 3) := by decide +kernel
theorem dX6_type_41 : decode cX6_type 41 = .ok (.dup, 1) := by decide +kernel
theorem dX6_type_42 : decode cX6_type 42 = .ok (.ldc 118, 2) := by decide +kernel
theorem dX6_type_44 : decode cX6_type 44 = .ok (.invokespecial 71, 3) := by decide +kernel
theorem dX6_type_47 : decode cX6_type 47 = .ok (.athrow, 1) := by decide +kernel
theorem dX6_type_48 : decode cX6_type 48 = .ok (.aload_n 0, 1) := by decide +kernel
theorem dX6_type_49 : decode cX6_type 49 = .ok (.getfield 120, 3) := by decide +kernel
theorem dX6_type_52 : decode cX6_type 52 = .ok (.iload_n 2, 1) := by decide +kernel
theorem dX6_type_53 : decode cX6_type 53 = .ok (.iadd, 1) := by decide +kernel
theorem dX6_type_54 : decode cX6_type 54 = .ok (.istore 4, 2) := by decide +kernel
theorem dX6_type_56 : decode cX6_type 56 = .ok (.iload 4, 2) := by decide +kernel
theorem dX6_type_58 : decode cX6_type 58 = .ok (.bipush 60, 2) := by decide +kernel
theorem dX6_type_60 : decode cX6_type 60 = .ok (.if_icmp .le 13, 3) := by decide +kernel
theorem dX6_type_63 : decode cX6_type 63 = .ok (.new 52, 3) := by decide +kernel
theorem dX6_type_66 : decode cX6_type 66 = .ok (.dup, 1) := by decide +kernel
theorem dX6_type_67 : decode cX6_type 67 = .ok (.ldc 123, 2) := by decide +kernel
theorem dX6_type_69 : decode cX6_type 69 = .ok (.invokespecial 56, 3) := by decide +kernel
theorem dX6_type_72 : decode cX6_type 72 = .ok (.athrow, 1) := by decide +kernel
theorem dX6_type_73 : decode cX6_type 73 = .ok (.aload_n 0, 1) := by decide +kernel
theorem dX6_type_74 : decode cX6_type 74 = .ok (.getfield 120, 3) := by decide +kernel
theorem dX6_type_77 : decode cX6_type 77 = .ok (.istore 5, 2) := by decide +kernel
theorem dX6_type_79 : decode cX6_type 79 = .ok (.iload 5, 2) := by decide +kernel
theorem dX6_type_81 : decode cX6_type 81 = .ok (.iload 4, 2) := by decide +kernel
theorem dX6_type_83 : decode cX6_type 83 = .ok (.if_icmp .ge 17, 3) := by decide +kernel
theorem dX6_type_86 : decode cX6_type 86 = .ok (.aload_n 0, 1) := by decide +kernel
theorem dX6_type_87 : decode cX6_type 87 = .ok (.getfield 21, 3) := by decide +kernel
theorem dX6_type_90 : decode cX6_type 90 = .ok (.iload 5, 2) := by decide +kernel
theorem dX6_type_92 : decode cX6_type 92 = .ok (.iload_n 1, 1) := by decide +kernel
theorem dX6_type_93 : decode cX6_type 93 = .ok (.castore, 1) := by decide +kernel
theorem dX6_type_94 : decode cX6_type 94 = .ok (.iinc 5 1, 3) := by decide +kernel
theorem dX6_type_97 : decode cX6_type 97 = .ok (.goto (-18), 3) := by decide +kernel
theorem dX6_type_100 : decode cX6_type 100 = .ok (.aload_n 0, 1) := by decide +kernel
theorem dX6_type_101 : decode cX6_type 101 = .ok (.iload 4, 2) := by decide +kernel
theorem dX6_type_103 : decode cX6_type 103 = .ok (.putfield 120, 3) := by decide +kernel
theorem dX6_type_106 : decode cX6_type 106 = .ok (.aload_n 0, 1) := by decide +kernel
theorem dX6_type_107 : decode cX6_type 107 = .ok (.getfield 120, 3) := by decide +kernel
theorem dX6_type_110 : decode cX6_type 110 = .ok (.ireturn, 1) := by decide +kernel
theorem dX6_wipe_0 : decode cX6_wipe 0 = .ok (.aload_n 0, 1) := by decide +kernel
theorem dX6_wipe_1 : decode cX6_wipe 1 = .ok (.getfield 120, 3) := by decide +kernel
theorem dX6_wipe_4 : decode cX6_wipe 4 = .ok (.istore_n 1, 1) := by decide +kernel
theorem dX6_wipe_5 : decode cX6_wipe 5 = .ok (.aload_n 0, 1) := by decide +kernel
theorem dX6_wipe_6 : decode cX6_wipe 6 = .ok (.iconst 0, 1) := by decide +kernel
theorem dX6_wipe_7 : decode cX6_wipe 7 = .ok (.putfield 120, 3) := by decide +kernel
theorem dX6_wipe_10 : decode cX6_wipe 10 = .ok (.iload_n 1, 1) := by decide +kernel
theorem dX6_wipe_11 : decode cX6_wipe 11 = .ok (.ireturn, 1) := by decide +kernel
theorem dX6_drive_0 : decode cX6_drive 0 = .ok (.aload_n 0, 1) := by decide +kernel
theorem dX6_drive_1 : decode cX6_drive 1 = .ok (.iload_n 1, 1) := by decide +kernel
theorem dX6_drive_2 : decode cX6_drive 2 = .ok (.invokevirtual 125, 3) := by decide +kernel
theorem dX6_drive_5 : decode cX6_drive 5 = .ok (.aload_n 0, 1) := by decide +kernel
theorem dX6_drive_6 : decode cX6_drive 6 = .ok (.iload_n 2, 1) := by decide +kernel
theorem dX6_drive_7 : decode cX6_drive 7 = .ok (.invokevirtual 59, 3) := by decide +kernel
theorem dX6_drive_10 : decode cX6_drive 10 = .ok (.astore 5, 2) := by decide +kernel
theorem dX6_drive_12 : decode cX6_drive 12 = .ok (.aload_n 0, 1) := by decide +kernel
theorem dX6_drive_13 : decode cX6_drive 13 = .ok (.iload_n 3, 1) := by decide +kernel
theorem dX6_drive_14 : decode cX6_drive 14 = .ok (.invokevirtual 129, 3) := by decide +kernel
theorem dX6_drive_17 : decode cX6_drive 17 = .ok (.astore 6, 2) := by decide +kernel
theorem dX6_drive_19 : decode cX6_drive 19 = .ok (.iload 4, 2) := by decide +kernel
theorem dX6_drive_21 : decode cX6_drive 21 = .ok (.iconst (-1), 1) := by decide +kernel
theorem dX6_drive_22 : decode cX6_drive 22 = .ok (.if_icmp .eq 26, 3) := by decide +kernel
theorem dX6_drive_25 : decode cX6_drive 25 = .ok (.aload_n 0, 1) := by decide +kernel
theorem dX6_drive_26 : decode cX6_drive 26 = .ok (.getfield 35, 3) := by decide +kernel
theorem dX6_drive_29 : decode cX6_drive 29 = .ok (.iload 4, 2) := by decide +kernel
theorem dX6_drive_31 : decode cX6_drive 31 = .ok (.iload_n 2, 1) := by decide +kernel
theorem dX6_drive_32 : decode cX6_drive 32 = .ok (.invokevirtual 133, 3) := by decide +kernel
theorem dX6_drive_35 : decode cX6_drive 35 = .ok (.ifCond .ne 13, 3) := by decide +kernel
theorem dX6_drive_38 : decode cX6_drive 38 = .ok (.new 109, 3) := by decide +kernel
theorem dX6_drive_41 : decode cX6_drive 41 = .ok (.dup, 1) := by decide +kernel
theorem dX6_drive_42 : decode cX6_drive 42 = .ok (.ldc 137, 2) := by decide +kernel
theorem dX6_drive_44 : decode cX6_drive 44 = .ok (.invokespecial 113, 3) := by decide +kernel
theorem dX6_drive_47 : decode cX6_drive 47 = .ok (.athrow, 1) := by decide +kernel
theorem dX6_drive_48 : decode cX6_drive 48 = .ok (.aload_n 0, 1) := by decide +kernel
theorem dX6_drive_49 : decode cX6_drive 49 = .ok (.aload 5, 2) := by decide +kernel
theorem dX6_drive_51 : decode cX6_drive 51 = .ok (.aload 6, 2) := by decide +kernel
theorem dX6_drive_53 : decode cX6_drive 53 = .ok (.invokevirtual 139, 3) := by decide +kernel
theorem dX6_drive_56 : decode cX6_drive 56 = .ok (.aload_n 0, 1) := by decide +kernel
theorem dX6_drive_57 : decode cX6_drive 57 = .ok (.getfield 35, 3) := by decide +kernel
theorem dX6_drive_60 : decode cX6_drive 60 = .ok (.getfield 143, 3) := by decide +kernel
theorem dX6_drive_63 : decode cX6_drive 63 = .ok (.bipush 30, 2) := by decide +kernel
theorem dX6_drive_65 : decode cX6_drive 65 = .ok (.if_icmp .lt 13, 3) := by decide +kernel
theorem dX6_drive_68 : decode cX6_drive 68 = .ok (.new 52, 3) := by decide +kernel
theorem dX6_drive_71 : decode cX6_drive 71 = .ok (.dup, 1) := by decide +kernel
theorem dX6_drive_72 : decode cX6_drive 72 = .ok (.ldc 146, 2) := by decide +kernel
theorem dX6_drive_74 : decode cX6_drive 74 = .ok (.invokespecial 56, 3) := by decide +kernel
theorem dX6_drive_77 : decode cX6_drive 77 = .ok (.athrow, 1) := by decide +kernel
theorem dX6_drive_78 : decode cX6_drive 78 = .ok (.aload_n 0, 1) := by decide +kernel
theorem dX6_drive_79 : decode cX6_drive 79 = .ok (.getfield 35, 3) := by decide +kernel
theorem dX6_drive_82 : decode cX6_drive 82 = .ok (.getfield 148, 3) := by decide +kernel
theorem dX6_drive_85 : decode cX6_drive 85 = .ok (.aload_n 0, 1) := by decide +kernel
theorem dX6_drive_86 : decode cX6_drive 86 = .ok (.getfield 35, 3) := by decide +kernel
theorem dX6_drive_89 : decode cX6_drive 89 = .ok (.getfield 143, 3) := by decide +kernel
theorem dX6_drive_92 : decode cX6_drive 92 = .ok (.aaload, 1) := by decide +kernel
theorem dX6_drive_93 : decode cX6_drive 93 = .ok (.astore 7, 2) := by decide +kernel
theorem dX6_drive_95 : decode cX6_drive 95 = .ok (.aload 7, 2) := by decide +kernel
theorem dX6_drive_97 : decode cX6_drive 97 = .ok (.iload_n 1, 1) := by decide +kernel
theorem dX6_drive_98 : decode cX6_drive 98 = .ok (.putfield 152, 3) := by decide +kernel
theorem dX6_drive_101 : decode cX6_drive 101 = .ok (.aload 7, 2) := by decide +kernel
theorem dX6_drive_103 : decode cX6_drive 103 = .ok (.iload_n 2, 1) := by decide +kernel
theorem dX6_drive_104 : decode cX6_drive 104 = .ok (.putfield 157, 3) := by decide +kernel
theorem dX6_drive_107 : decode cX6_drive 107 = .ok (.aload 7, 2) := by decide +kernel
theorem dX6_drive_109 : decode cX6_drive 109 = .ok (.iload_n 3, 1) := by decide +kernel
theorem dX6_drive_110 : decode cX6_drive 110 = .ok (.putfield 160, 3) := by decide +kernel
theorem dX6_drive_113 : decode cX6_drive 113 = .ok (.aload 7, 2) := by decide +kernel
theorem dX6_drive_115 : decode cX6_drive 115 = .ok (.iload 4, 2) := by decide +kernel
theorem dX6_drive_117 : decode cX6_drive 117 = .ok (.putfield 163, 3) := by decide +kernel
theorem dX6_drive_120 : decode cX6_drive 120 = .ok (.aload 7, 2) := by decide +kernel
theorem dX6_drive_122 : decode cX6_drive 122 = .ok (.aload_n 0, 1) := by decide +kernel
theorem dX6_drive_123 : decode cX6_drive 123 = .ok (.getfield 42, 3) := by decide +kernel
theorem dX6_drive_126 : decode cX6_drive 126 = .ok (.iload_n 2, 1) := by decide +kernel
theorem dX6_drive_127 : decode cX6_drive 127 = .ok (.invokevirtual 166, 3) := by decide +kernel
theorem dX6_drive_130 : decode cX6_drive 130 = .ok (.putfield 169, 3) := by decide +kernel
theorem dX6_drive_133 : decode cX6_drive 133 = .ok (.aload 7, 2) := by decide +kernel
theorem dX6_drive_135 : decode cX6_drive 135 = .ok (.aload_n 0, 1) := by decide +kernel
theorem dX6_drive_136 : decode cX6_drive 136 = .ok (.getfield 28, 3) := by decide +kernel
theorem dX6_drive_139 : decode cX6_drive 139 = .ok (.aload_n 0, 1) := by decide +kernel
theorem dX6_drive_140 : decode cX6_drive 140 = .ok (.getfield 21, 3) := by decide +kernel
theorem dX6_drive_143 : decode cX6_drive 143 = .ok (.invokevirtual 172, 3) := by decide +kernel
theorem dX6_drive_146 : decode cX6_drive 146 = .ok (.aload_n 0, 1) := by decide +kernel
theorem dX6_drive_147 : decode cX6_drive 147 = .ok (.getfield 35, 3) := by decide +kernel
theorem dX6_drive_150 : decode cX6_drive 150 = .ok (.aload 7, 2) := by decide +kernel
theorem dX6_drive_152 : decode cX6_drive 152 = .ok (.invokevirtual 176, 3) := by decide +kernel
theorem dX6_drive_155 : decode cX6_drive 155 = .ok (.aload 5, 2) := by decide +kernel
theorem dX6_drive_157 : decode cX6_drive 157 = .ok (.iconst 1, 1) := by decide +kernel
theorem dX6_drive_158 : decode cX6_drive 158 = .ok (.putfield 72, 3) := by decide +kernel
theorem dX6_drive_161 : decode cX6_drive 161 = .ok (.aload_n 0, 1) := by decide +kernel
theorem dX6_drive_162 : decode cX6_drive 162 = .ok (.iconst 0, 1) := by decide +kernel
theorem dX6_drive_163 : decode cX6_drive 163 = .ok (.putfield 120, 3) := by decide +kernel
theorem dX6_drive_166 : decode cX6_drive 166 = .ok (.aload_n 0, 1) := by decide +kernel
theorem dX6_drive_167 : decode cX6_drive 167 = .ok (.getfield 35, 3) := by decide +kernel
theorem dX6_drive_170 : decode cX6_drive 170 = .ok (.getfield 143, 3) := by decide +kernel
theorem dX6_drive_173 : decode cX6_drive 173 = .ok (.iconst 1, 1) := by decide +kernel
theorem dX6_drive_174 : decode cX6_drive 174 = .ok (.isub, 1) := by decide +kernel
theorem dX6_drive_175 : decode cX6_drive 175 = .ok (.ireturn, 1) := by decide +kernel
theorem dX6_tryOut_0 : decode cX6_tryOut 0 = .ok (.aload_n 0, 1) := by decide +kernel
theorem dX6_tryOut_1 : decode cX6_tryOut 1 = .ok (.aload_n 0, 1) := by decide +kernel
theorem dX6_tryOut_2 : decode cX6_tryOut 2 = .ok (.iload_n 1, 1) := by decide +kernel
theorem dX6_tryOut_3 : decode cX6_tryOut 3 = .ok (.invokevirtual 59, 3) := by decide +kernel
theorem dX6_tryOut_6 : decode cX6_tryOut 6 = .ok (.aload_n 0, 1) := by decide +kernel
theorem dX6_tryOut_7 : decode cX6_tryOut 7 = .ok (.iload_n 2, 1) := by decide +kernel
theorem dX6_tryOut_8 : decode cX6_tryOut 8 = .ok (.invokevirtual 129, 3) := by decide +kernel
theorem dX6_tryOut_11 : decode cX6_tryOut 11 = .ok (.invokevirtual 139, 3) := by decide +kernel
theorem dX6_tryOut_14 : decode cX6_tryOut 14 = .ok (.aload_n 0, 1) := by decide +kernel
theorem dX6_tryOut_15 : decode cX6_tryOut 15 = .ok (.getfield 28, 3) := by decide +kernel
theorem dX6_tryOut_18 : decode cX6_tryOut 18 = .ok (.getfield 180, 3) := by decide +kernel
theorem dX6_tryOut_21 : decode cX6_tryOut 21 = .ok (.ireturn, 1) := by decide +kernel
theorem dX6_rideTyped_0 : decode cX6_rideTyped 0 = .ok (.aload_n 1, 1) := by decide +kernel
theorem dX6_rideTyped_1 : decode cX6_rideTyped 1 = .ok (.getfield 81, 3) := by decide +kernel
theorem dX6_rideTyped_4 : decode cX6_rideTyped 4 = .ok (.ifCond .ne 13, 3) := by decide +kernel
theorem dX6_rideTyped_7 : decode cX6_rideTyped 7 = .ok (.new 76, 3) := by decide +kernel
theorem dX6_rideTyped_10 : decode cX6_rideTyped 10 = .ok (.dup, 1) := by decide +kernel
theorem dX6_rideTyped_11 : decode cX6_rideTyped 11 = .ok (.ldc 183, 2) := by decide +kernel
theorem dX6_rideTyped_13 : decode cX6_rideTyped 13 = .ok (.invokespecial 80, 3) := by decide +kernel
theorem dX6_rideTyped_16 : decode cX6_rideTyped 16 = .ok (.athrow, 1) := by decide +kernel
theorem dX6_rideTyped_17 : decode cX6_rideTyped 17 = .ok (.aload_n 0, 1) := by decide +kernel
theorem dX6_rideTyped_18 : decode cX6_rideTyped 18 = .ok (.getfield 28, 3) := by decide +kernel
theorem dX6_rideTyped_21 : decode cX6_rideTyped 21 = .ok (.aload_n 0, 1) := by decide +kernel
theorem dX6_rideTyped_22 : decode cX6_rideTyped 22 = .ok (.getfield 21, 3) := by decide +kernel
theorem dX6_rideTyped_25 : decode cX6_rideTyped 25 = .ok (.aload_n 0, 1) := by decide +kernel
theorem dX6_rideTyped_26 : decode cX6_rideTyped 26 = .ok (.getfield 120, 3) := by decide +kernel
theorem dX6_rideTyped_29 : decode cX6_rideTyped 29 = .ok (.aload_n 1, 1) := by decide +kernel
theorem dX6_rideTyped_30 : decode cX6_rideTyped 30 = .ok (.aload_n 2, 1) := by decide +kernel
theorem dX6_rideTyped_31 : decode cX6_rideTyped 31 = .ok (.invokevirtual 185, 3) := by decide +kernel
theorem dX6_rideTyped_34 : decode cX6_rideTyped 34 = .ok (.aload_n 0, 1) := by decide +kernel
theorem dX6_rideTyped_35 : decode cX6_rideTyped 35 = .ok (.getfield 28, 3) := by decide +kernel
theorem dX6_rideTyped_38 : decode cX6_rideTyped 38 = .ok (.getfield 189, 3) := by decide +kernel
theorem dX6_rideTyped_41 : decode cX6_rideTyped 41 = .ok (.ifCond .ne 13, 3) := by decide +kernel
theorem dX6_rideTyped_44 : decode cX6_rideTyped 44 = .ok (.new 76, 3) := by decide +kernel
theorem dX6_rideTyped_47 : decode cX6_rideTyped 47 = .ok (.dup, 1) := by decide +kernel
theorem dX6_rideTyped_48 : decode cX6_rideTyped 48 = .ok (.ldc 192, 2) := by decide +kernel
theorem dX6_rideTyped_50 : decode cX6_rideTyped 50 = .ok (.invokespecial 80, 3) := by decide +kernel
theorem dX6_rideTyped_53 : decode cX6_rideTyped 53 = .ok (.athrow, 1) := by decide +kernel
theorem dX6_rideTyped_54 : decode cX6_rideTyped 54 = .ok (.return_, 1) := by decide +kernel
theorem dX6_laps_0 : decode cX6_laps 0 = .ok (.aload_n 0, 1) := by decide +kernel
theorem dX6_laps_1 : decode cX6_laps 1 = .ok (.getfield 35, 3) := by decide +kernel
theorem dX6_laps_4 : decode cX6_laps 4 = .ok (.getfield 143, 3) := by decide +kernel
theorem dX6_laps_7 : decode cX6_laps 7 = .ok (.ireturn, 1) := by decide +kernel
theorem dX6_time_0 : decode cX6_time 0 = .ok (.aload_n 0, 1) := by decide +kernel
theorem dX6_time_1 : decode cX6_time 1 = .ok (.iload_n 1, 1) := by decide +kernel
theorem dX6_time_2 : decode cX6_time 2 = .ok (.invokevirtual 194, 3) := by decide +kernel
theorem dX6_time_5 : decode cX6_time 5 = .ok (.astore_n 3, 1) := by decide +kernel
theorem dX6_time_6 : decode cX6_time 6 = .ok (.iload_n 2, 1) := by decide +kernel
theorem dX6_time_7 : decode cX6_time 7 = .ok (.ifCond .eq 10, 3) := by decide +kernel
theorem dX6_time_10 : decode cX6_time 10 = .ok (.aload_n 3, 1) := by decide +kernel
theorem dX6_time_11 : decode cX6_time 11 = .ok (.invokevirtual 198, 3) := by decide +kernel
theorem dX6_time_14 : decode cX6_time 14 = .ok (.goto 7, 3) := by decide +kernel
theorem dX6_time_17 : decode cX6_time 17 = .ok (.aload_n 3, 1) := by decide +kernel
theorem dX6_time_18 : decode cX6_time 18 = .ok (.getfield 202, 3) := by decide +kernel
theorem dX6_time_21 : decode cX6_time 21 = .ok (.ireturn, 1) := by decide +kernel
theorem dX6_ticks_0 : decode cX6_ticks 0 = .ok (.aload_n 0, 1) := by decide +kernel
theorem dX6_ticks_1 : decode cX6_ticks 1 = .ok (.iload_n 1, 1) := by decide +kernel
theorem dX6_ticks_2 : decode cX6_ticks 2 = .ok (.invokevirtual 194, 3) := by decide +kernel
theorem dX6_ticks_5 : decode cX6_ticks 5 = .ok (.getfield 203, 3) := by decide +kernel
theorem dX6_ticks_8 : decode cX6_ticks 8 = .ok (.ireturn, 1) := by decide +kernel
theorem dX6_inputAt_0 : decode cX6_inputAt 0 = .ok (.aload_n 0, 1) := by decide +kernel
theorem dX6_inputAt_1 : decode cX6_inputAt 1 = .ok (.iload_n 1, 1) := by decide +kernel
theorem dX6_inputAt_2 : decode cX6_inputAt 2 = .ok (.invokevirtual 194, 3) := by decide +kernel
theorem dX6_inputAt_5 : decode cX6_inputAt 5 = .ok (.astore_n 3, 1) := by decide +kernel
theorem dX6_inputAt_6 : decode cX6_inputAt 6 = .ok (.iload_n 2, 1) := by decide +kernel
theorem dX6_inputAt_7 : decode cX6_inputAt 7 = .ok (.ifCond .lt 11, 3) := by decide +kernel
theorem dX6_inputAt_10 : decode cX6_inputAt 10 = .ok (.iload_n 2, 1) := by decide +kernel
theorem dX6_inputAt_11 : decode cX6_inputAt 11 = .ok (.aload_n 3, 1) := by decide +kernel
theorem dX6_inputAt_12 : decode cX6_inputAt 12 = .ok (.getfield 203, 3) := by decide +kernel
theorem dX6_inputAt_15 : decode cX6_inputAt 15 = .ok (.if_icmp .lt 13, 3) := by decide +kernel
theorem dX6_inputAt_18 : decode cX6_inputAt 18 = .ok (.new 109, 3) := by decide +kernel
theorem dX6_inputAt_21 : decode cX6_inputAt 21 = .ok (.dup, 1) := by decide +kernel
theorem dX6_inputAt_22 : decode cX6_inputAt 22 = .ok (.ldc 206, 2) := by decide +kernel
theorem dX6_inputAt_24 : decode cX6_inputAt 24 = .ok (.invokespecial 113, 3) := by decide +kernel
theorem dX6_inputAt_27 : decode cX6_inputAt 27 = .ok (.athrow, 1) := by decide +kernel
theorem dX6_inputAt_28 : decode cX6_inputAt 28 = .ok (.aload_n 3, 1) := by decide +kernel
theorem dX6_inputAt_29 : decode cX6_inputAt 29 = .ok (.getfield 208, 3) := by decide +kernel
theorem dX6_inputAt_32 : decode cX6_inputAt 32 = .ok (.iload_n 2, 1) := by decide +kernel
theorem dX6_inputAt_33 : decode cX6_inputAt 33 = .ok (.caload, 1) := by decide +kernel
theorem dX6_inputAt_34 : decode cX6_inputAt 34 = .ok (.ireturn, 1) := by decide +kernel
theorem dX6_replay_0 : decode cX6_replay 0 = .ok (.aload_n 0, 1) := by decide +kernel
theorem dX6_replay_1 : decode cX6_replay 1 = .ok (.iload_n 1, 1) := by decide +kernel
theorem dX6_replay_2 : decode cX6_replay 2 = .ok (.invokevirtual 194, 3) := by decide +kernel
theorem dX6_replay_5 : decode cX6_replay 5 = .ok (.astore 4, 2) := by decide +kernel
theorem dX6_replay_7 : decode cX6_replay 7 = .ok (.iload_n 2, 1) := by decide +kernel
theorem dX6_replay_8 : decode cX6_replay 8 = .ok (.ifCond .lt 12, 3) := by decide +kernel
theorem dX6_replay_11 : decode cX6_replay 11 = .ok (.iload_n 2, 1) := by decide +kernel
theorem dX6_replay_12 : decode cX6_replay 12 = .ok (.aload 4, 2) := by decide +kernel
theorem dX6_replay_14 : decode cX6_replay 14 = .ok (.getfield 203, 3) := by decide +kernel
theorem dX6_replay_17 : decode cX6_replay 17 = .ok (.if_icmp .le 13, 3) := by decide +kernel
theorem dX6_replay_20 : decode cX6_replay 20 = .ok (.new 109, 3) := by decide +kernel
theorem dX6_replay_23 : decode cX6_replay 23 = .ok (.dup, 1) := by decide +kernel
theorem dX6_replay_24 : decode cX6_replay 24 = .ok (.ldc 211, 2) := by decide +kernel
theorem dX6_replay_26 : decode cX6_replay 26 = .ok (.invokespecial 113, 3) := by decide +kernel
theorem dX6_replay_29 : decode cX6_replay 29 = .ok (.athrow, 1) := by decide +kernel
theorem dX6_replay_30 : decode cX6_replay 30 = .ok (.aload_n 0, 1) := by decide +kernel
theorem dX6_replay_31 : decode cX6_replay 31 = .ok (.aload 4, 2) := by decide +kernel
theorem dX6_replay_33 : decode cX6_replay 33 = .ok (.iload_n 2, 1) := by decide +kernel
theorem dX6_replay_34 : decode cX6_replay 34 = .ok (.invokevirtual 213, 3) := by decide +kernel
theorem dX6_replay_37 : decode cX6_replay 37 = .ok (.iload_n 3, 1) := by decide +kernel
theorem dX6_replay_38 : decode cX6_replay 38 = .ok (.ifCond .eq 13, 3) := by decide +kernel
theorem dX6_replay_41 : decode cX6_replay 41 = .ok (.aload_n 0, 1) := by decide +kernel
theorem dX6_replay_42 : decode cX6_replay 42 = .ok (.getfield 28, 3) := by decide +kernel
theorem dX6_replay_45 : decode cX6_replay 45 = .ok (.getfield 217, 3) := by decide +kernel
theorem dX6_replay_48 : decode cX6_replay 48 = .ok (.goto 10, 3) := by decide +kernel
theorem dX6_replay_51 : decode cX6_replay 51 = .ok (.aload_n 0, 1) := by decide +kernel
theorem dX6_replay_52 : decode cX6_replay 52 = .ok (.getfield 28, 3) := by decide +kernel
theorem dX6_replay_55 : decode cX6_replay 55 = .ok (.getfield 220, 3) := by decide +kernel
theorem dX6_replay_58 : decode cX6_replay 58 = .ok (.ireturn, 1) := by decide +kernel
theorem dX6_of_0 : decode cX6_of 0 = .ok (.aload_n 0, 1) := by decide +kernel
theorem dX6_of_1 : decode cX6_of 1 = .ok (.iload_n 1, 1) := by decide +kernel
theorem dX6_of_2 : decode cX6_of 2 = .ok (.invokevirtual 194, 3) := by decide +kernel
theorem dX6_of_5 : decode cX6_of 5 = .ok (.astore_n 3, 1) := by decide +kernel
theorem dX6_of_6 : decode cX6_of 6 = .ok (.iload_n 2, 1) := by decide +kernel
theorem dX6_of_7 : decode cX6_of 7 = .ok (.lookupswitch 74 #[(99, 59), (100, 49), (103, 64), (114, 69), (116, 54)], 49) := by decide +kernel
theorem dX6_of_56 : decode cX6_of 56 = .ok (.aload_n 3, 1) := by decide +kernel
theorem dX6_of_57 : decode cX6_of 57 = .ok (.getfield 152, 3) := by decide +kernel
theorem dX6_of_60 : decode cX6_of 60 = .ok (.ireturn, 1) := by decide +kernel
theorem dX6_of_61 : decode cX6_of 61 = .ok (.aload_n 3, 1) := by decide +kernel
theorem dX6_of_62 : decode cX6_of 62 = .ok (.getfield 157, 3) := by decide +kernel
theorem dX6_of_65 : decode cX6_of 65 = .ok (.ireturn, 1) := by decide +kernel
theorem dX6_of_66 : decode cX6_of 66 = .ok (.aload_n 3, 1) := by decide +kernel
theorem dX6_of_67 : decode cX6_of 67 = .ok (.getfield 160, 3) := by decide +kernel
theorem dX6_of_70 : decode cX6_of 70 = .ok (.ireturn, 1) := by decide +kernel
theorem dX6_of_71 : decode cX6_of 71 = .ok (.aload_n 3, 1) := by decide +kernel
theorem dX6_of_72 : decode cX6_of 72 = .ok (.getfield 163, 3) := by decide +kernel
theorem dX6_of_75 : decode cX6_of 75 = .ok (.ireturn, 1) := by decide +kernel
theorem dX6_of_76 : decode cX6_of 76 = .ok (.aload_n 3, 1) := by decide +kernel
theorem dX6_of_77 : decode cX6_of 77 = .ok (.getfield 169, 3) := by decide +kernel
theorem dX6_of_80 : decode cX6_of 80 = .ok (.ireturn, 1) := by decide +kernel
theorem dX6_of_81 : decode cX6_of 81 = .ok (.new 67, 3) := by decide +kernel
theorem dX6_of_84 : decode cX6_of 84 = .ok (.dup, 1) := by decide +kernel
theorem dX6_of_85 : decode cX6_of 85 = .ok (.ldc 223, 2) := by decide +kernel
theorem dX6_of_87 : decode cX6_of 87 = .ok (.invokespecial 71, 3) := by decide +kernel
theorem dX6_of_90 : decode cX6_of 90 = .ok (.athrow, 1) := by decide +kernel
theorem dX6_beats_0 : decode cX6_beats 0 = .ok (.aload_n 0, 1) := by decide +kernel
theorem dX6_beats_1 : decode cX6_beats 1 = .ok (.iload_n 1, 1) := by decide +kernel
theorem dX6_beats_2 : decode cX6_beats 2 = .ok (.invokevirtual 194, 3) := by decide +kernel
theorem dX6_beats_5 : decode cX6_beats 5 = .ok (.astore_n 2, 1) := by decide +kernel
theorem dX6_beats_6 : decode cX6_beats 6 = .ok (.aload_n 0, 1) := by decide +kernel
theorem dX6_beats_7 : decode cX6_beats 7 = .ok (.getfield 35, 3) := by decide +kernel
theorem dX6_beats_10 : decode cX6_beats 10 = .ok (.aload_n 2, 1) := by decide +kernel
theorem dX6_beats_11 : decode cX6_beats 11 = .ok (.getfield 163, 3) := by decide +kernel
theorem dX6_beats_14 : decode cX6_beats 14 = .ok (.invokevirtual 225, 3) := by decide +kernel
theorem dX6_beats_17 : decode cX6_beats 17 = .ok (.ifCond .ne 13, 3) := by decide +kernel
theorem dX6_beats_20 : decode cX6_beats 20 = .ok (.new 109, 3) := by decide +kernel
theorem dX6_beats_23 : decode cX6_beats 23 = .ok (.dup, 1) := by decide +kernel
theorem dX6_beats_24 : decode cX6_beats 24 = .ok (.ldc 229, 2) := by decide +kernel
theorem dX6_beats_26 : decode cX6_beats 26 = .ok (.invokespecial 113, 3) := by decide +kernel
theorem dX6_beats_29 : decode cX6_beats 29 = .ok (.athrow, 1) := by decide +kernel
theorem dX6_beats_30 : decode cX6_beats 30 = .ok (.aload_n 2, 1) := by decide +kernel
theorem dX6_beats_31 : decode cX6_beats 31 = .ok (.invokevirtual 198, 3) := by decide +kernel
theorem dX6_beats_34 : decode cX6_beats 34 = .ok (.aload_n 0, 1) := by decide +kernel
theorem dX6_beats_35 : decode cX6_beats 35 = .ok (.getfield 35, 3) := by decide +kernel
theorem dX6_beats_38 : decode cX6_beats 38 = .ok (.getfield 148, 3) := by decide +kernel
theorem dX6_beats_41 : decode cX6_beats 41 = .ok (.aload_n 2, 1) := by decide +kernel
theorem dX6_beats_42 : decode cX6_beats 42 = .ok (.getfield 163, 3) := by decide +kernel
theorem dX6_beats_45 : decode cX6_beats 45 = .ok (.aaload, 1) := by decide +kernel
theorem dX6_beats_46 : decode cX6_beats 46 = .ok (.invokevirtual 198, 3) := by decide +kernel
theorem dX6_beats_49 : decode cX6_beats 49 = .ok (.if_icmp .ge 7, 3) := by decide +kernel
theorem dX6_beats_52 : decode cX6_beats 52 = .ok (.iconst 1, 1) := by decide +kernel
theorem dX6_beats_53 : decode cX6_beats 53 = .ok (.goto 4, 3) := by decide +kernel
theorem dX6_beats_56 : decode cX6_beats 56 = .ok (.iconst 0, 1) := by decide +kernel
theorem dX6_beats_57 : decode cX6_beats 57 = .ok (.ireturn, 1) := by decide +kernel
theorem dX6_least_0 : decode cX6_least 0 = .ok (.aload_n 0, 1) := by decide +kernel
theorem dX6_least_1 : decode cX6_least 1 = .ok (.iload_n 1, 1) := by decide +kernel
theorem dX6_least_2 : decode cX6_least 2 = .ok (.invokevirtual 59, 3) := by decide +kernel
theorem dX6_least_5 : decode cX6_least 5 = .ok (.pop, 1) := by decide +kernel
theorem dX6_least_6 : decode cX6_least 6 = .ok (.aload_n 0, 1) := by decide +kernel
theorem dX6_least_7 : decode cX6_least 7 = .ok (.getfield 35, 3) := by decide +kernel
theorem dX6_least_10 : decode cX6_least 10 = .ok (.iload_n 1, 1) := by decide +kernel
theorem dX6_least_11 : decode cX6_least 11 = .ok (.invokevirtual 231, 3) := by decide +kernel
theorem dX6_least_14 : decode cX6_least 14 = .ok (.istore_n 2, 1) := by decide +kernel
theorem dX6_least_15 : decode cX6_least 15 = .ok (.iload_n 2, 1) := by decide +kernel
theorem dX6_least_16 : decode cX6_least 16 = .ok (.iconst (-1), 1) := by decide +kernel
theorem dX6_least_17 : decode cX6_least 17 = .ok (.if_icmp .ne 13, 3) := by decide +kernel
theorem dX6_least_20 : decode cX6_least 20 = .ok (.new 109, 3) := by decide +kernel
theorem dX6_least_23 : decode cX6_least 23 = .ok (.dup, 1) := by decide +kernel
theorem dX6_least_24 : decode cX6_least 24 = .ok (.ldc 234, 2) := by decide +kernel
theorem dX6_least_26 : decode cX6_least 26 = .ok (.invokespecial 113, 3) := by decide +kernel
theorem dX6_least_29 : decode cX6_least 29 = .ok (.athrow, 1) := by decide +kernel
theorem dX6_least_30 : decode cX6_least 30 = .ok (.iload_n 2, 1) := by decide +kernel
theorem dX6_least_31 : decode cX6_least 31 = .ok (.ireturn, 1) := by decide +kernel
theorem dX6_base_0 : decode cX6_base 0 = .ok (.aload_n 0, 1) := by decide +kernel
theorem dX6_base_1 : decode cX6_base 1 = .ok (.iload_n 1, 1) := by decide +kernel
theorem dX6_base_2 : decode cX6_base 2 = .ok (.invokevirtual 194, 3) := by decide +kernel
theorem dX6_base_5 : decode cX6_base 5 = .ok (.astore_n 2, 1) := by decide +kernel
theorem dX6_base_6 : decode cX6_base 6 = .ok (.aload_n 2, 1) := by decide +kernel
theorem dX6_base_7 : decode cX6_base 7 = .ok (.getfield 236, 3) := by decide +kernel
theorem dX6_base_10 : decode cX6_base 10 = .ok (.iconst (-1), 1) := by decide +kernel
theorem dX6_base_11 : decode cX6_base 11 = .ok (.if_icmp .ne 13, 3) := by decide +kernel
theorem dX6_base_14 : decode cX6_base 14 = .ok (.new 109, 3) := by decide +kernel
theorem dX6_base_17 : decode cX6_base 17 = .ok (.dup, 1) := by decide +kernel
theorem dX6_base_18 : decode cX6_base 18 = .ok (.ldc 239, 2) := by decide +kernel
theorem dX6_base_20 : decode cX6_base 20 = .ok (.invokespecial 113, 3) := by decide +kernel
theorem dX6_base_23 : decode cX6_base 23 = .ok (.athrow, 1) := by decide +kernel
theorem dX6_base_24 : decode cX6_base 24 = .ok (.aload_n 2, 1) := by decide +kernel
theorem dX6_base_25 : decode cX6_base 25 = .ok (.getfield 236, 3) := by decide +kernel
theorem dX6_base_28 : decode cX6_base 28 = .ok (.ireturn, 1) := by decide +kernel
theorem dX6_depth_0 : decode cX6_depth 0 = .ok (.aload_n 0, 1) := by decide +kernel
theorem dX6_depth_1 : decode cX6_depth 1 = .ok (.iload_n 1, 1) := by decide +kernel
theorem dX6_depth_2 : decode cX6_depth 2 = .ok (.invokevirtual 194, 3) := by decide +kernel
theorem dX6_depth_5 : decode cX6_depth 5 = .ok (.getfield 241, 3) := by decide +kernel
theorem dX6_depth_8 : decode cX6_depth 8 = .ok (.ireturn, 1) := by decide +kernel
theorem dX6_parts_0 : decode cX6_parts 0 = .ok (.aload_n 0, 1) := by decide +kernel
theorem dX6_parts_1 : decode cX6_parts 1 = .ok (.iload_n 1, 1) := by decide +kernel
theorem dX6_parts_2 : decode cX6_parts 2 = .ok (.invokevirtual 194, 3) := by decide +kernel
theorem dX6_parts_5 : decode cX6_parts 5 = .ok (.getfield 244, 3) := by decide +kernel
theorem dX6_parts_8 : decode cX6_parts 8 = .ok (.ireturn, 1) := by decide +kernel
theorem dX6_stored_0 : decode cX6_stored 0 = .ok (.iconst 0, 1) := by decide +kernel
theorem dX6_stored_1 : decode cX6_stored 1 = .ok (.istore_n 1, 1) := by decide +kernel
theorem dX6_stored_2 : decode cX6_stored 2 = .ok (.iconst 0, 1) := by decide +kernel
theorem dX6_stored_3 : decode cX6_stored 3 = .ok (.istore_n 2, 1) := by decide +kernel
theorem dX6_stored_4 : decode cX6_stored 4 = .ok (.iload_n 2, 1) := by decide +kernel
theorem dX6_stored_5 : decode cX6_stored 5 = .ok (.aload_n 0, 1) := by decide +kernel
theorem dX6_stored_6 : decode cX6_stored 6 = .ok (.getfield 35, 3) := by decide +kernel
theorem dX6_stored_9 : decode cX6_stored 9 = .ok (.getfield 143, 3) := by decide +kernel
theorem dX6_stored_12 : decode cX6_stored 12 = .ok (.if_icmp .ge 24, 3) := by decide +kernel
theorem dX6_stored_15 : decode cX6_stored 15 = .ok (.iload_n 1, 1) := by decide +kernel
theorem dX6_stored_16 : decode cX6_stored 16 = .ok (.aload_n 0, 1) := by decide +kernel
theorem dX6_stored_17 : decode cX6_stored 17 = .ok (.getfield 35, 3) := by decide +kernel
theorem dX6_stored_20 : decode cX6_stored 20 = .ok (.getfield 148, 3) := by decide +kernel
theorem dX6_stored_23 : decode cX6_stored 23 = .ok (.iload_n 2, 1) := by decide +kernel
theorem dX6_stored_24 : decode cX6_stored 24 = .ok (.aaload, 1) := by decide +kernel
theorem dX6_stored_25 : decode cX6_stored 25 = .ok (.getfield 244, 3) := by decide +kernel
theorem dX6_stored_28 : decode cX6_stored 28 = .ok (.iadd, 1) := by decide +kernel
theorem dX6_stored_29 : decode cX6_stored 29 = .ok (.istore_n 1, 1) := by decide +kernel
theorem dX6_stored_30 : decode cX6_stored 30 = .ok (.iinc 2 1, 3) := by decide +kernel
theorem dX6_stored_33 : decode cX6_stored 33 = .ok (.goto (-29), 3) := by decide +kernel
theorem dX6_stored_36 : decode cX6_stored 36 = .ok (.iload_n 1, 1) := by decide +kernel
theorem dX6_stored_37 : decode cX6_stored 37 = .ok (.ireturn, 1) := by decide +kernel
theorem dX6_resting_0 : decode cX6_resting 0 = .ok (.aload_n 0, 1) := by decide +kernel
theorem dX6_resting_1 : decode cX6_resting 1 = .ok (.iload_n 1, 1) := by decide +kernel
theorem dX6_resting_2 : decode cX6_resting 2 = .ok (.invokevirtual 194, 3) := by decide +kernel
theorem dX6_resting_5 : decode cX6_resting 5 = .ok (.pop, 1) := by decide +kernel
theorem dX6_resting_6 : decode cX6_resting 6 = .ok (.aload_n 0, 1) := by decide +kernel
theorem dX6_resting_7 : decode cX6_resting 7 = .ok (.getfield 35, 3) := by decide +kernel
theorem dX6_resting_10 : decode cX6_resting 10 = .ok (.iload_n 1, 1) := by decide +kernel
theorem dX6_resting_11 : decode cX6_resting 11 = .ok (.invokevirtual 247, 3) := by decide +kernel
theorem dX6_resting_14 : decode cX6_resting 14 = .ok (.ireturn, 1) := by decide +kernel
theorem dX6_strike_0 : decode cX6_strike 0 = .ok (.aload_n 0, 1) := by decide +kernel
theorem dX6_strike_1 : decode cX6_strike 1 = .ok (.iload_n 1, 1) := by decide +kernel
theorem dX6_strike_2 : decode cX6_strike 2 = .ok (.invokevirtual 194, 3) := by decide +kernel
theorem dX6_strike_5 : decode cX6_strike 5 = .ok (.astore_n 2, 1) := by decide +kernel
theorem dX6_strike_6 : decode cX6_strike 6 = .ok (.aload_n 2, 1) := by decide +kernel
theorem dX6_strike_7 : decode cX6_strike 7 = .ok (.getfield 250, 3) := by decide +kernel
theorem dX6_strike_10 : decode cX6_strike 10 = .ok (.ifCond .ne 13, 3) := by decide +kernel
theorem dX6_strike_13 : decode cX6_strike 13 = .ok (.new 76, 3) := by decide +kernel
theorem dX6_strike_16 : decode cX6_strike 16 = .ok (.dup, 1) := by decide +kernel
theorem dX6_strike_17 : decode cX6_strike 17 = .ok (.ldc 253, 2) := by decide +kernel
theorem dX6_strike_19 : decode cX6_strike 19 = .ok (.invokespecial 80, 3) := by decide +kernel
theorem dX6_strike_22 : decode cX6_strike 22 = .ok (.athrow, 1) := by decide +kernel
theorem dX6_strike_23 : decode cX6_strike 23 = .ok (.aload_n 2, 1) := by decide +kernel
theorem dX6_strike_24 : decode cX6_strike 24 = .ok (.iconst 0, 1) := by decide +kernel
theorem dX6_strike_25 : decode cX6_strike 25 = .ok (.putfield 250, 3) := by decide +kernel
theorem dX6_strike_28 : decode cX6_strike 28 = .ok (.aload_n 0, 1) := by decide +kernel
theorem dX6_strike_29 : decode cX6_strike 29 = .ok (.getfield 35, 3) := by decide +kernel
theorem dX6_strike_32 : decode cX6_strike 32 = .ok (.iload_n 1, 1) := by decide +kernel
theorem dX6_strike_33 : decode cX6_strike 33 = .ok (.aload_n 2, 1) := by decide +kernel
theorem dX6_strike_34 : decode cX6_strike 34 = .ok (.getfield 236, 3) := by decide +kernel
theorem dX6_strike_37 : decode cX6_strike 37 = .ok (.invokevirtual 255, 3) := by decide +kernel
theorem dX6_strike_40 : decode cX6_strike 40 = .ok (.ireturn, 1) := by decide +kernel
theorem dX6_giveBack_0 : decode cX6_giveBack 0 = .ok (.aload_n 0, 1) := by decide +kernel
theorem dX6_giveBack_1 : decode cX6_giveBack 1 = .ok (.iload_n 1, 1) := by decide +kernel
theorem dX6_giveBack_2 : decode cX6_giveBack 2 = .ok (.invokevirtual 194, 3) := by decide +kernel
theorem dX6_giveBack_5 : decode cX6_giveBack 5 = .ok (.astore_n 2, 1) := by decide +kernel
theorem dX6_giveBack_6 : decode cX6_giveBack 6 = .ok (.aload_n 2, 1) := by decide +kernel
theorem dX6_giveBack_7 : decode cX6_giveBack 7 = .ok (.getfield 250, 3) := by decide +kernel
theorem dX6_giveBack_10 : decode cX6_giveBack 10 = .ok (.ifCond .eq 14, 3) := by decide +kernel
theorem dX6_giveBack_13 : decode cX6_giveBack 13 = .ok (.new 76, 3) := by decide +kernel
theorem dX6_giveBack_16 : decode cX6_giveBack 16 = .ok (.dup, 1) := by decide +kernel
theorem dX6_giveBack_17 : decode cX6_giveBack 17 = .ok (.ldc_w 259, 3) := by decide +kernel
theorem dX6_giveBack_20 : decode cX6_giveBack 20 = .ok (.invokespecial 80, 3) := by decide +kernel
theorem dX6_giveBack_23 : decode cX6_giveBack 23 = .ok (.athrow, 1) := by decide +kernel
theorem dX6_giveBack_24 : decode cX6_giveBack 24 = .ok (.aload_n 2, 1) := by decide +kernel
theorem dX6_giveBack_25 : decode cX6_giveBack 25 = .ok (.iconst 1, 1) := by decide +kernel
theorem dX6_giveBack_26 : decode cX6_giveBack 26 = .ok (.putfield 250, 3) := by decide +kernel
theorem dX6_giveBack_29 : decode cX6_giveBack 29 = .ok (.aload_n 0, 1) := by decide +kernel
theorem dX6_giveBack_30 : decode cX6_giveBack 30 = .ok (.getfield 35, 3) := by decide +kernel
theorem dX6_giveBack_33 : decode cX6_giveBack 33 = .ok (.invokevirtual 261, 3) := by decide +kernel
theorem dX6_giveBack_36 : decode cX6_giveBack 36 = .ok (.ireturn, 1) := by decide +kernel
theorem dX6_stands_0 : decode cX6_stands 0 = .ok (.aload_n 0, 1) := by decide +kernel
theorem dX6_stands_1 : decode cX6_stands 1 = .ok (.iload_n 1, 1) := by decide +kernel
theorem dX6_stands_2 : decode cX6_stands 2 = .ok (.invokevirtual 194, 3) := by decide +kernel
theorem dX6_stands_5 : decode cX6_stands 5 = .ok (.getfield 250, 3) := by decide +kernel
theorem dX6_stands_8 : decode cX6_stands 8 = .ok (.ireturn, 1) := by decide +kernel
theorem dX6_penalty_0 : decode cX6_penalty 0 = .ok (.aload_n 0, 1) := by decide +kernel
theorem dX6_penalty_1 : decode cX6_penalty 1 = .ok (.iload_n 1, 1) := by decide +kernel
theorem dX6_penalty_2 : decode cX6_penalty 2 = .ok (.invokevirtual 194, 3) := by decide +kernel
theorem dX6_penalty_5 : decode cX6_penalty 5 = .ok (.astore_n 3, 1) := by decide +kernel
theorem dX6_penalty_6 : decode cX6_penalty 6 = .ok (.iload_n 2, 1) := by decide +kernel
theorem dX6_penalty_7 : decode cX6_penalty 7 = .ok (.iconst 0, 1) := by decide +kernel
theorem dX6_penalty_8 : decode cX6_penalty 8 = .ok (.sipush 9999, 3) := by decide +kernel
theorem dX6_penalty_11 : decode cX6_penalty 11 = .ok (.invokestatic 63, 3) := by decide +kernel
theorem dX6_penalty_14 : decode cX6_penalty 14 = .ok (.ifCond .ne 14, 3) := by decide +kernel
theorem dX6_penalty_17 : decode cX6_penalty 17 = .ok (.new 67, 3) := by decide +kernel
theorem dX6_penalty_20 : decode cX6_penalty 20 = .ok (.dup, 1) := by decide +kernel
theorem dX6_penalty_21 : decode cX6_penalty 21 = .ok (.ldc_w 264, 3) := by decide +kernel
theorem dX6_penalty_24 : decode cX6_penalty 24 = .ok (.invokespecial 71, 3) := by decide +kernel
theorem dX6_penalty_27 : decode cX6_penalty 27 = .ok (.athrow, 1) := by decide +kernel
theorem dX6_penalty_28 : decode cX6_penalty 28 = .ok (.aload_n 3, 1) := by decide +kernel
theorem dX6_penalty_29 : decode cX6_penalty 29 = .ok (.getfield 266, 3) := by decide +kernel
theorem dX6_penalty_32 : decode cX6_penalty 32 = .ok (.istore 4, 2) := by decide +kernel
theorem dX6_penalty_34 : decode cX6_penalty 34 = .ok (.aload_n 3, 1) := by decide +kernel
theorem dX6_penalty_35 : decode cX6_penalty 35 = .ok (.iload_n 2, 1) := by decide +kernel
theorem dX6_penalty_36 : decode cX6_penalty 36 = .ok (.putfield 266, 3) := by decide +kernel
theorem dX6_penalty_39 : decode cX6_penalty 39 = .ok (.iload 4, 2) := by decide +kernel
theorem dX6_penalty_41 : decode cX6_penalty 41 = .ok (.ireturn, 1) := by decide +kernel
theorem dX6_round_0 : decode cX6_round 0 = .ok (.aload_n 0, 1) := by decide +kernel
theorem dX6_round_1 : decode cX6_round 1 = .ok (.iload_n 1, 1) := by decide +kernel
theorem dX6_round_2 : decode cX6_round 2 = .ok (.invokevirtual 59, 3) := by decide +kernel
theorem dX6_round_5 : decode cX6_round 5 = .ok (.pop, 1) := by decide +kernel
theorem dX6_round_6 : decode cX6_round 6 = .ok (.aload_n 0, 1) := by decide +kernel
theorem dX6_round_7 : decode cX6_round 7 = .ok (.getfield 42, 3) := by decide +kernel
theorem dX6_round_10 : decode cX6_round 10 = .ok (.getfield 269, 3) := by decide +kernel
theorem dX6_round_13 : decode cX6_round 13 = .ok (.bipush 10, 2) := by decide +kernel
theorem dX6_round_15 : decode cX6_round 15 = .ok (.if_icmp .lt 14, 3) := by decide +kernel
theorem dX6_round_18 : decode cX6_round 18 = .ok (.new 52, 3) := by decide +kernel
theorem dX6_round_21 : decode cX6_round 21 = .ok (.dup, 1) := by decide +kernel
theorem dX6_round_22 : decode cX6_round 22 = .ok (.ldc_w 272, 3) := by decide +kernel
theorem dX6_round_25 : decode cX6_round 25 = .ok (.invokespecial 56, 3) := by decide +kernel
theorem dX6_round_28 : decode cX6_round 28 = .ok (.athrow, 1) := by decide +kernel
theorem dX6_round_29 : decode cX6_round 29 = .ok (.aload_n 0, 1) := by decide +kernel
theorem dX6_round_30 : decode cX6_round 30 = .ok (.getfield 42, 3) := by decide +kernel
theorem dX6_round_33 : decode cX6_round 33 = .ok (.iload_n 1, 1) := by decide +kernel
theorem dX6_round_34 : decode cX6_round 34 = .ok (.invokevirtual 274, 3) := by decide +kernel
theorem dX6_round_37 : decode cX6_round 37 = .ok (.aload_n 0, 1) := by decide +kernel
theorem dX6_round_38 : decode cX6_round 38 = .ok (.getfield 42, 3) := by decide +kernel
theorem dX6_round_41 : decode cX6_round 41 = .ok (.getfield 277, 3) := by decide +kernel
theorem dX6_round_44 : decode cX6_round 44 = .ok (.ireturn, 1) := by decide +kernel
theorem dX6_shut_0 : decode cX6_shut 0 = .ok (.aload_n 0, 1) := by decide +kernel
theorem dX6_shut_1 : decode cX6_shut 1 = .ok (.getfield 42, 3) := by decide +kernel
theorem dX6_shut_4 : decode cX6_shut 4 = .ok (.getfield 277, 3) := by decide +kernel
theorem dX6_shut_7 : decode cX6_shut 7 = .ok (.istore_n 1, 1) := by decide +kernel
theorem dX6_shut_8 : decode cX6_shut 8 = .ok (.iload_n 1, 1) := by decide +kernel
theorem dX6_shut_9 : decode cX6_shut 9 = .ok (.iconst (-1), 1) := by decide +kernel
theorem dX6_shut_10 : decode cX6_shut 10 = .ok (.if_icmp .ne 14, 3) := by decide +kernel
theorem dX6_shut_13 : decode cX6_shut 13 = .ok (.new 52, 3) := by decide +kernel
theorem dX6_shut_16 : decode cX6_shut 16 = .ok (.dup, 1) := by decide +kernel
theorem dX6_shut_17 : decode cX6_shut 17 = .ok (.ldc_w 280, 3) := by decide +kernel
theorem dX6_shut_20 : decode cX6_shut 20 = .ok (.invokespecial 56, 3) := by decide +kernel
theorem dX6_shut_23 : decode cX6_shut 23 = .ok (.athrow, 1) := by decide +kernel
theorem dX6_shut_24 : decode cX6_shut 24 = .ok (.aload_n 0, 1) := by decide +kernel
theorem dX6_shut_25 : decode cX6_shut 25 = .ok (.getfield 42, 3) := by decide +kernel
theorem dX6_shut_28 : decode cX6_shut 28 = .ok (.iconst (-1), 1) := by decide +kernel
theorem dX6_shut_29 : decode cX6_shut 29 = .ok (.putfield 277, 3) := by decide +kernel
theorem dX6_shut_32 : decode cX6_shut 32 = .ok (.iload_n 1, 1) := by decide +kernel
theorem dX6_shut_33 : decode cX6_shut 33 = .ok (.ireturn, 1) := by decide +kernel
theorem dX6_lapIn_0 : decode cX6_lapIn 0 = .ok (.aload_n 0, 1) := by decide +kernel
theorem dX6_lapIn_1 : decode cX6_lapIn 1 = .ok (.iload_n 1, 1) := by decide +kernel
theorem dX6_lapIn_2 : decode cX6_lapIn 2 = .ok (.iload_n 2, 1) := by decide +kernel
theorem dX6_lapIn_3 : decode cX6_lapIn 3 = .ok (.invokevirtual 282, 3) := by decide +kernel
theorem dX6_lapIn_6 : decode cX6_lapIn 6 = .ok (.ireturn, 1) := by decide +kernel
theorem dX6_placeIn_0 : decode cX6_placeIn 0 = .ok (.aload_n 0, 1) := by decide +kernel
theorem dX6_placeIn_1 : decode cX6_placeIn 1 = .ok (.getfield 42, 3) := by decide +kernel
theorem dX6_placeIn_4 : decode cX6_placeIn 4 = .ok (.aload_n 0, 1) := by decide +kernel
theorem dX6_placeIn_5 : decode cX6_placeIn 5 = .ok (.getfield 35, 3) := by decide +kernel
theorem dX6_placeIn_8 : decode cX6_placeIn 8 = .ok (.aload_n 0, 1) := by decide +kernel
theorem dX6_placeIn_9 : decode cX6_placeIn 9 = .ok (.iload_n 1, 1) := by decide +kernel
theorem dX6_placeIn_10 : decode cX6_placeIn 10 = .ok (.iload_n 2, 1) := by decide +kernel
theorem dX6_placeIn_11 : decode cX6_placeIn 11 = .ok (.invokevirtual 282, 3) := by decide +kernel
theorem dX6_placeIn_14 : decode cX6_placeIn 14 = .ok (.invokevirtual 285, 3) := by decide +kernel
theorem dX6_placeIn_17 : decode cX6_placeIn 17 = .ok (.iconst 1, 1) := by decide +kernel
theorem dX6_placeIn_18 : decode cX6_placeIn 18 = .ok (.iadd, 1) := by decide +kernel
theorem dX6_placeIn_19 : decode cX6_placeIn 19 = .ok (.ireturn, 1) := by decide +kernel
theorem dX6_findLap_0 : decode cX6_findLap 0 = .ok (.iload_n 1, 1) := by decide +kernel
theorem dX6_findLap_1 : decode cX6_findLap 1 = .ok (.ifCond .lt 14, 3) := by decide +kernel
theorem dX6_findLap_4 : decode cX6_findLap 4 = .ok (.iload_n 1, 1) := by decide +kernel
theorem dX6_findLap_5 : decode cX6_findLap 5 = .ok (.aload_n 0, 1) := by decide +kernel
theorem dX6_findLap_6 : decode cX6_findLap 6 = .ok (.getfield 42, 3) := by decide +kernel
theorem dX6_findLap_9 : decode cX6_findLap 9 = .ok (.getfield 269, 3) := by decide +kernel
theorem dX6_findLap_12 : decode cX6_findLap 12 = .ok (.if_icmp .lt 14, 3) := by decide +kernel
theorem dX6_findLap_15 : decode cX6_findLap 15 = .ok (.new 289, 3) := by decide +kernel
theorem dX6_findLap_18 : decode cX6_findLap 18 = .ok (.dup, 1) := by decide +kernel
theorem dX6_findLap_19 : decode cX6_findLap 19 = .ok (.ldc_w 291, 3) := by decide +kernel
theorem dX6_findLap_22 : decode cX6_findLap 22 = .ok (.invokespecial 293, 3) := by decide +kernel
theorem dX6_findLap_25 : decode cX6_findLap 25 = .ok (.athrow, 1) := by decide +kernel
theorem dX6_findLap_26 : decode cX6_findLap 26 = .ok (.aload_n 0, 1) := by decide +kernel
theorem dX6_findLap_27 : decode cX6_findLap 27 = .ok (.iload_n 2, 1) := by decide +kernel
theorem dX6_findLap_28 : decode cX6_findLap 28 = .ok (.invokevirtual 125, 3) := by decide +kernel
theorem dX6_findLap_31 : decode cX6_findLap 31 = .ok (.aload_n 0, 1) := by decide +kernel
theorem dX6_findLap_32 : decode cX6_findLap 32 = .ok (.getfield 42, 3) := by decide +kernel
theorem dX6_findLap_35 : decode cX6_findLap 35 = .ok (.aload_n 0, 1) := by decide +kernel
theorem dX6_findLap_36 : decode cX6_findLap 36 = .ok (.getfield 35, 3) := by decide +kernel
theorem dX6_findLap_39 : decode cX6_findLap 39 = .ok (.iload_n 1, 1) := by decide +kernel
theorem dX6_findLap_40 : decode cX6_findLap 40 = .ok (.invokevirtual 294, 3) := by decide +kernel
theorem dX6_findLap_43 : decode cX6_findLap 43 = .ok (.aload_n 0, 1) := by decide +kernel
theorem dX6_findLap_44 : decode cX6_findLap 44 = .ok (.getfield 42, 3) := by decide +kernel
theorem dX6_findLap_47 : decode cX6_findLap 47 = .ok (.getfield 298, 3) := by decide +kernel
theorem dX6_findLap_50 : decode cX6_findLap 50 = .ok (.iload_n 2, 1) := by decide +kernel
theorem dX6_findLap_51 : decode cX6_findLap 51 = .ok (.iaload, 1) := by decide +kernel
theorem dX6_findLap_52 : decode cX6_findLap 52 = .ok (.iconst (-1), 1) := by decide +kernel
theorem dX6_findLap_53 : decode cX6_findLap 53 = .ok (.if_icmp .ne 14, 3) := by decide +kernel
theorem dX6_findLap_56 : decode cX6_findLap 56 = .ok (.new 109, 3) := by decide +kernel
theorem dX6_findLap_59 : decode cX6_findLap 59 = .ok (.dup, 1) := by decide +kernel
theorem dX6_findLap_60 : decode cX6_findLap 60 = .ok (.ldc_w 302, 3) := by decide +kernel
theorem dX6_findLap_63 : decode cX6_findLap 63 = .ok (.invokespecial 113, 3) := by decide +kernel
theorem dX6_findLap_66 : decode cX6_findLap 66 = .ok (.athrow, 1) := by decide +kernel
theorem dX6_findLap_67 : decode cX6_findLap 67 = .ok (.aload_n 0, 1) := by decide +kernel
theorem dX6_findLap_68 : decode cX6_findLap 68 = .ok (.getfield 42, 3) := by decide +kernel
theorem dX6_findLap_71 : decode cX6_findLap 71 = .ok (.getfield 298, 3) := by decide +kernel
theorem dX6_findLap_74 : decode cX6_findLap 74 = .ok (.iload_n 2, 1) := by decide +kernel
theorem dX6_findLap_75 : decode cX6_findLap 75 = .ok (.iaload, 1) := by decide +kernel
theorem dX6_findLap_76 : decode cX6_findLap 76 = .ok (.ireturn, 1) := by decide +kernel
theorem dX6_drop_0 : decode cX6_drop 0 = .ok (.iload_n 1, 1) := by decide +kernel
theorem dX6_drop_1 : decode cX6_drop 1 = .ok (.iconst 0, 1) := by decide +kernel
theorem dX6_drop_2 : decode cX6_drop 2 = .ok (.iconst 3, 1) := by decide +kernel
theorem dX6_drop_3 : decode cX6_drop 3 = .ok (.invokestatic 63, 3) := by decide +kernel
theorem dX6_drop_6 : decode cX6_drop 6 = .ok (.ifCond .ne 14, 3) := by decide +kernel
theorem dX6_drop_9 : decode cX6_drop 9 = .ok (.new 67, 3) := by decide +kernel
theorem dX6_drop_12 : decode cX6_drop 12 = .ok (.dup, 1) := by decide +kernel
theorem dX6_drop_13 : decode cX6_drop 13 = .ok (.ldc_w 304, 3) := by decide +kernel
theorem dX6_drop_16 : decode cX6_drop 16 = .ok (.invokespecial 71, 3) := by decide +kernel
theorem dX6_drop_19 : decode cX6_drop 19 = .ok (.athrow, 1) := by decide +kernel
theorem dX6_drop_20 : decode cX6_drop 20 = .ok (.aload_n 0, 1) := by decide +kernel
theorem dX6_drop_21 : decode cX6_drop 21 = .ok (.getfield 42, 3) := by decide +kernel
theorem dX6_drop_24 : decode cX6_drop 24 = .ok (.getfield 306, 3) := by decide +kernel
theorem dX6_drop_27 : decode cX6_drop 27 = .ok (.istore_n 2, 1) := by decide +kernel
theorem dX6_drop_28 : decode cX6_drop 28 = .ok (.aload_n 0, 1) := by decide +kernel
theorem dX6_drop_29 : decode cX6_drop 29 = .ok (.getfield 42, 3) := by decide +kernel
theorem dX6_drop_32 : decode cX6_drop 32 = .ok (.iload_n 1, 1) := by decide +kernel
theorem dX6_drop_33 : decode cX6_drop 33 = .ok (.putfield 306, 3) := by decide +kernel
theorem dX6_drop_36 : decode cX6_drop 36 = .ok (.iload_n 2, 1) := by decide +kernel
theorem dX6_drop_37 : decode cX6_drop 37 = .ok (.ireturn, 1) := by decide +kernel
theorem dX6_points_0 : decode cX6_points 0 = .ok (.aload_n 0, 1) := by decide +kernel
theorem dX6_points_1 : decode cX6_points 1 = .ok (.iload_n 1, 1) := by decide +kernel
theorem dX6_points_2 : decode cX6_points 2 = .ok (.invokevirtual 125, 3) := by decide +kernel
theorem dX6_points_5 : decode cX6_points 5 = .ok (.aload_n 0, 1) := by decide +kernel
theorem dX6_points_6 : decode cX6_points 6 = .ok (.getfield 42, 3) := by decide +kernel
theorem dX6_points_9 : decode cX6_points 9 = .ok (.aload_n 0, 1) := by decide +kernel
theorem dX6_points_10 : decode cX6_points 10 = .ok (.getfield 35, 3) := by decide +kernel
theorem dX6_points_13 : decode cX6_points 13 = .ok (.invokevirtual 309, 3) := by decide +kernel
theorem dX6_points_16 : decode cX6_points 16 = .ok (.aload_n 0, 1) := by decide +kernel
theorem dX6_points_17 : decode cX6_points 17 = .ok (.getfield 42, 3) := by decide +kernel
theorem dX6_points_20 : decode cX6_points 20 = .ok (.getfield 313, 3) := by decide +kernel
theorem dX6_points_23 : decode cX6_points 23 = .ok (.iload_n 1, 1) := by decide +kernel
theorem dX6_points_24 : decode cX6_points 24 = .ok (.iaload, 1) := by decide +kernel
theorem dX6_points_25 : decode cX6_points 25 = .ok (.ireturn, 1) := by decide +kernel
theorem dX6_wins_0 : decode cX6_wins 0 = .ok (.aload_n 0, 1) := by decide +kernel
theorem dX6_wins_1 : decode cX6_wins 1 = .ok (.iload_n 1, 1) := by decide +kernel
theorem dX6_wins_2 : decode cX6_wins 2 = .ok (.invokevirtual 125, 3) := by decide +kernel
theorem dX6_wins_5 : decode cX6_wins 5 = .ok (.aload_n 0, 1) := by decide +kernel
theorem dX6_wins_6 : decode cX6_wins 6 = .ok (.getfield 42, 3) := by decide +kernel
theorem dX6_wins_9 : decode cX6_wins 9 = .ok (.aload_n 0, 1) := by decide +kernel
theorem dX6_wins_10 : decode cX6_wins 10 = .ok (.getfield 35, 3) := by decide +kernel
theorem dX6_wins_13 : decode cX6_wins 13 = .ok (.invokevirtual 309, 3) := by decide +kernel
theorem dX6_wins_16 : decode cX6_wins 16 = .ok (.aload_n 0, 1) := by decide +kernel
theorem dX6_wins_17 : decode cX6_wins 17 = .ok (.getfield 42, 3) := by decide +kernel
theorem dX6_wins_20 : decode cX6_wins 20 = .ok (.getfield 316, 3) := by decide +kernel
theorem dX6_wins_23 : decode cX6_wins 23 = .ok (.iload_n 1, 1) := by decide +kernel
theorem dX6_wins_24 : decode cX6_wins 24 = .ok (.iaload, 1) := by decide +kernel
theorem dX6_wins_25 : decode cX6_wins 25 = .ok (.ireturn, 1) := by decide +kernel
theorem dX6_standing_0 : decode cX6_standing 0 = .ok (.iload_n 1, 1) := by decide +kernel
theorem dX6_standing_1 : decode cX6_standing 1 = .ok (.ifCond .lt 9, 3) := by decide +kernel
theorem dX6_standing_4 : decode cX6_standing 4 = .ok (.iload_n 1, 1) := by decide +kernel
theorem dX6_standing_5 : decode cX6_standing 5 = .ok (.bipush 6, 2) := by decide +kernel
theorem dX6_standing_7 : decode cX6_standing 7 = .ok (.if_icmp .lt 13, 3) := by decide +kernel
theorem dX6_standing_10 : decode cX6_standing 10 = .ok (.new 289, 3) := by decide +kernel
theorem dX6_standing_13 : decode cX6_standing 13 = .ok (.dup, 1) := by decide +kernel
theorem dX6_standing_14 : decode cX6_standing 14 = .ok (.ldc 111, 2) := by decide +kernel
theorem dX6_standing_16 : decode cX6_standing 16 = .ok (.invokespecial 293, 3) := by decide +kernel
theorem dX6_standing_19 : decode cX6_standing 19 = .ok (.athrow, 1) := by decide +kernel
theorem dX6_standing_20 : decode cX6_standing 20 = .ok (.aload_n 0, 1) := by decide +kernel
theorem dX6_standing_21 : decode cX6_standing 21 = .ok (.getfield 42, 3) := by decide +kernel
theorem dX6_standing_24 : decode cX6_standing 24 = .ok (.aload_n 0, 1) := by decide +kernel
theorem dX6_standing_25 : decode cX6_standing 25 = .ok (.getfield 35, 3) := by decide +kernel
theorem dX6_standing_28 : decode cX6_standing 28 = .ok (.invokevirtual 309, 3) := by decide +kernel
theorem dX6_standing_31 : decode cX6_standing 31 = .ok (.aload_n 0, 1) := by decide +kernel
theorem dX6_standing_32 : decode cX6_standing 32 = .ok (.getfield 42, 3) := by decide +kernel
theorem dX6_standing_35 : decode cX6_standing 35 = .ok (.iload_n 1, 1) := by decide +kernel
theorem dX6_standing_36 : decode cX6_standing 36 = .ok (.invokevirtual 319, 3) := by decide +kernel
theorem dX6_standing_39 : decode cX6_standing 39 = .ok (.ireturn, 1) := by decide +kernel
theorem dX6_checksum_0 : decode cX6_checksum 0 = .ok (.ldc2_w 322, 3) := by decide +kernel
theorem dX6_checksum_3 : decode cX6_checksum 3 = .ok (.lstore_n 1, 1) := by decide +kernel
theorem dX6_checksum_4 : decode cX6_checksum 4 = .ok (.iconst 0, 1) := by decide +kernel
theorem dX6_checksum_5 : decode cX6_checksum 5 = .ok (.istore_n 3, 1) := by decide +kernel
theorem dX6_checksum_6 : decode cX6_checksum 6 = .ok (.iload_n 3, 1) := by decide +kernel
theorem dX6_checksum_7 : decode cX6_checksum 7 = .ok (.aload_n 0, 1) := by decide +kernel
theorem dX6_checksum_8 : decode cX6_checksum 8 = .ok (.getfield 35, 3) := by decide +kernel
theorem dX6_checksum_11 : decode cX6_checksum 11 = .ok (.getfield 143, 3) := by decide +kernel
theorem dX6_checksum_14 : decode cX6_checksum 14 = .ok (.if_icmp .ge 62, 3) := by decide +kernel
theorem dX6_checksum_17 : decode cX6_checksum 17 = .ok (.aload_n 0, 1) := by decide +kernel
theorem dX6_checksum_18 : decode cX6_checksum 18 = .ok (.getfield 35, 3) := by decide +kernel
theorem dX6_checksum_21 : decode cX6_checksum 21 = .ok (.getfield 148, 3) := by decide +kernel
theorem dX6_checksum_24 : decode cX6_checksum 24 = .ok (.iload_n 3, 1) := by decide +kernel
theorem dX6_checksum_25 : decode cX6_checksum 25 = .ok (.aaload, 1) := by decide +kernel
theorem dX6_checksum_26 : decode cX6_checksum 26 = .ok (.astore 4, 2) := by decide +kernel
theorem dX6_checksum_28 : decode cX6_checksum 28 = .ok (.ldc2_w 324, 3) := by decide +kernel
theorem dX6_checksum_31 : decode cX6_checksum 31 = .ok (.lload_n 1, 1) := by decide +kernel
theorem dX6_checksum_32 : decode cX6_checksum 32 = .ok (.lmul, 1) := by decide +kernel
theorem dX6_checksum_33 : decode cX6_checksum 33 = .ok (.aload 4, 2) := by decide +kernel
theorem dX6_checksum_35 : decode cX6_checksum 35 = .ok (.getfield 202, 3) := by decide +kernel
theorem dX6_checksum_38 : decode cX6_checksum 38 = .ok (.i2l, 1) := by decide +kernel
theorem dX6_checksum_39 : decode cX6_checksum 39 = .ok (.ladd, 1) := by decide +kernel
theorem dX6_checksum_40 : decode cX6_checksum 40 = .ok (.aload 4, 2) := by decide +kernel
theorem dX6_checksum_42 : decode cX6_checksum 42 = .ok (.getfield 266, 3) := by decide +kernel
theorem dX6_checksum_45 : decode cX6_checksum 45 = .ok (.i2l, 1) := by decide +kernel
theorem dX6_checksum_46 : decode cX6_checksum 46 = .ok (.ladd, 1) := by decide +kernel
theorem dX6_checksum_47 : decode cX6_checksum 47 = .ok (.aload 4, 2) := by decide +kernel
theorem dX6_checksum_49 : decode cX6_checksum 49 = .ok (.getfield 244, 3) := by decide +kernel
theorem dX6_checksum_52 : decode cX6_checksum 52 = .ok (.i2l, 1) := by decide +kernel
theorem dX6_checksum_53 : decode cX6_checksum 53 = .ok (.ladd, 1) := by decide +kernel
theorem dX6_checksum_54 : decode cX6_checksum 54 = .ok (.aload 4, 2) := by decide +kernel
theorem dX6_checksum_56 : decode cX6_checksum 56 = .ok (.getfield 250, 3) := by decide +kernel
theorem dX6_checksum_59 : decode cX6_checksum 59 = .ok (.ifCond .eq 7, 3) := by decide +kernel
theorem dX6_checksum_62 : decode cX6_checksum 62 = .ok (.iconst 1, 1) := by decide +kernel
theorem dX6_checksum_63 : decode cX6_checksum 63 = .ok (.goto 4, 3) := by decide +kernel
theorem dX6_checksum_66 : decode cX6_checksum 66 = .ok (.iconst 0, 1) := by decide +kernel
theorem dX6_checksum_67 : decode cX6_checksum 67 = .ok (.i2l, 1) := by decide +kernel
theorem dX6_checksum_68 : decode cX6_checksum 68 = .ok (.ladd, 1) := by decide +kernel
theorem dX6_checksum_69 : decode cX6_checksum 69 = .ok (.lstore_n 1, 1) := by decide +kernel
theorem dX6_checksum_70 : decode cX6_checksum 70 = .ok (.iinc 3 1, 3) := by decide +kernel
theorem dX6_checksum_73 : decode cX6_checksum 73 = .ok (.goto (-67), 3) := by decide +kernel
theorem dX6_checksum_76 : decode cX6_checksum 76 = .ok (.lload_n 1, 1) := by decide +kernel
theorem dX6_checksum_77 : decode cX6_checksum 77 = .ok (.lreturn, 1) := by decide +kernel
theorem dX6_shareStored_0 : decode cX6_shareStored 0 = .ok (.iconst 0, 1) := by decide +kernel
theorem dX6_shareStored_1 : decode cX6_shareStored 1 = .ok (.istore_n 1, 1) := by decide +kernel
theorem dX6_shareStored_2 : decode cX6_shareStored 2 = .ok (.iconst 0, 1) := by decide +kernel
theorem dX6_shareStored_3 : decode cX6_shareStored 3 = .ok (.istore_n 2, 1) := by decide +kernel
theorem dX6_shareStored_4 : decode cX6_shareStored 4 = .ok (.iload_n 2, 1) := by decide +kernel
theorem dX6_shareStored_5 : decode cX6_shareStored 5 = .ok (.aload_n 0, 1) := by decide +kernel
theorem dX6_shareStored_6 : decode cX6_shareStored 6 = .ok (.getfield 35, 3) := by decide +kernel
theorem dX6_shareStored_9 : decode cX6_shareStored 9 = .ok (.getfield 143, 3) := by decide +kernel
theorem dX6_shareStored_12 : decode cX6_shareStored 12 = .ok (.if_icmp .ge 24, 3) := by decide +kernel
theorem dX6_shareStored_15 : decode cX6_shareStored 15 = .ok (.iload_n 1, 1) := by decide +kernel
theorem dX6_shareStored_16 : decode cX6_shareStored 16 = .ok (.aload_n 0, 1) := by decide +kernel
theorem dX6_shareStored_17 : decode cX6_shareStored 17 = .ok (.getfield 35, 3) := by decide +kernel
theorem dX6_shareStored_20 : decode cX6_shareStored 20 = .ok (.getfield 148, 3) := by decide +kernel
theorem dX6_shareStored_23 : decode cX6_shareStored 23 = .ok (.iload_n 2, 1) := by decide +kernel
theorem dX6_shareStored_24 : decode cX6_shareStored 24 = .ok (.aaload, 1) := by decide +kernel
theorem dX6_shareStored_25 : decode cX6_shareStored 25 = .ok (.getfield 203, 3) := by decide +kernel
theorem dX6_shareStored_28 : decode cX6_shareStored 28 = .ok (.iadd, 1) := by decide +kernel
theorem dX6_shareStored_29 : decode cX6_shareStored 29 = .ok (.istore_n 1, 1) := by decide +kernel
theorem dX6_shareStored_30 : decode cX6_shareStored 30 = .ok (.iinc 2 1, 3) := by decide +kernel
theorem dX6_shareStored_33 : decode cX6_shareStored 33 = .ok (.goto (-29), 3) := by decide +kernel
theorem dX6_shareStored_36 : decode cX6_shareStored 36 = .ok (.iload_n 1, 1) := by decide +kernel
theorem dX6_shareStored_37 : decode cX6_shareStored 37 = .ok (.ifCond .ne 14, 3) := by decide +kernel
theorem dX6_shareStored_40 : decode cX6_shareStored 40 = .ok (.new 109, 3) := by decide +kernel
theorem dX6_shareStored_43 : decode cX6_shareStored 43 = .ok (.dup, 1) := by decide +kernel
theorem dX6_shareStored_44 : decode cX6_shareStored 44 = .ok (.ldc_w 326, 3) := by decide +kernel
theorem dX6_shareStored_47 : decode cX6_shareStored 47 = .ok (.invokespecial 113, 3) := by decide +kernel
theorem dX6_shareStored_50 : decode cX6_shareStored 50 = .ok (.athrow, 1) := by decide +kernel
theorem dX6_shareStored_51 : decode cX6_shareStored 51 = .ok (.aload_n 0, 1) := by decide +kernel
theorem dX6_shareStored_52 : decode cX6_shareStored 52 = .ok (.invokevirtual 328, 3) := by decide +kernel
theorem dX6_shareStored_55 : decode cX6_shareStored 55 = .ok (.i2f, 1) := by decide +kernel
theorem dX6_shareStored_56 : decode cX6_shareStored 56 = .ok (.iload_n 1, 1) := by decide +kernel
theorem dX6_shareStored_57 : decode cX6_shareStored 57 = .ok (.i2f, 1) := by decide +kernel
theorem dX6_shareStored_58 : decode cX6_shareStored 58 = .ok (.fdiv, 1) := by decide +kernel
theorem dX6_shareStored_59 : decode cX6_shareStored 59 = .ok (.freturn, 1) := by decide +kernel
theorem dX6_meanTime_0 : decode cX6_meanTime 0 = .ok (.aload_n 0, 1) := by decide +kernel
theorem dX6_meanTime_1 : decode cX6_meanTime 1 = .ok (.getfield 35, 3) := by decide +kernel
theorem dX6_meanTime_4 : decode cX6_meanTime 4 = .ok (.invokevirtual 261, 3) := by decide +kernel
theorem dX6_meanTime_7 : decode cX6_meanTime 7 = .ok (.istore_n 1, 1) := by decide +kernel
theorem dX6_meanTime_8 : decode cX6_meanTime 8 = .ok (.iload_n 1, 1) := by decide +kernel
theorem dX6_meanTime_9 : decode cX6_meanTime 9 = .ok (.ifCond .ne 14, 3) := by decide +kernel
theorem dX6_meanTime_12 : decode cX6_meanTime 12 = .ok (.new 109, 3) := by decide +kernel
theorem dX6_meanTime_15 : decode cX6_meanTime 15 = .ok (.dup, 1) := by decide +kernel
theorem dX6_meanTime_16 : decode cX6_meanTime 16 = .ok (.ldc_w 331, 3) := by decide +kernel
theorem dX6_meanTime_19 : decode cX6_meanTime 19 = .ok (.invokespecial 113, 3) := by decide +kernel
theorem dX6_meanTime_22 : decode cX6_meanTime 22 = .ok (.athrow, 1) := by decide +kernel
theorem dX6_meanTime_23 : decode cX6_meanTime 23 = .ok (.iconst 0, 1) := by decide +kernel
theorem dX6_meanTime_24 : decode cX6_meanTime 24 = .ok (.istore_n 2, 1) := by decide +kernel
theorem dX6_meanTime_25 : decode cX6_meanTime 25 = .ok (.iconst 0, 1) := by decide +kernel
theorem dX6_meanTime_26 : decode cX6_meanTime 26 = .ok (.istore_n 3, 1) := by decide +kernel
theorem dX6_meanTime_27 : decode cX6_meanTime 27 = .ok (.iload_n 3, 1) := by decide +kernel
theorem dX6_meanTime_28 : decode cX6_meanTime 28 = .ok (.aload_n 0, 1) := by decide +kernel
theorem dX6_meanTime_29 : decode cX6_meanTime 29 = .ok (.getfield 35, 3) := by decide +kernel
theorem dX6_meanTime_32 : decode cX6_meanTime 32 = .ok (.getfield 143, 3) := by decide +kernel
theorem dX6_meanTime_35 : decode cX6_meanTime 35 = .ok (.if_icmp .ge 40, 3) := by decide +kernel
theorem dX6_meanTime_38 : decode cX6_meanTime 38 = .ok (.aload_n 0, 1) := by decide +kernel
theorem dX6_meanTime_39 : decode cX6_meanTime 39 = .ok (.getfield 35, 3) := by decide +kernel
theorem dX6_meanTime_42 : decode cX6_meanTime 42 = .ok (.getfield 148, 3) := by decide +kernel
theorem dX6_meanTime_45 : decode cX6_meanTime 45 = .ok (.iload_n 3, 1) := by decide +kernel
theorem dX6_meanTime_46 : decode cX6_meanTime 46 = .ok (.aaload, 1) := by decide +kernel
theorem dX6_meanTime_47 : decode cX6_meanTime 47 = .ok (.astore 4, 2) := by decide +kernel
theorem dX6_meanTime_49 : decode cX6_meanTime 49 = .ok (.iload_n 2, 1) := by decide +kernel
theorem dX6_meanTime_50 : decode cX6_meanTime 50 = .ok (.aload 4, 2) := by decide +kernel
theorem dX6_meanTime_52 : decode cX6_meanTime 52 = .ok (.getfield 250, 3) := by decide +kernel
theorem dX6_meanTime_55 : decode cX6_meanTime 55 = .ok (.ifCond .eq 11, 3) := by decide +kernel
theorem dX6_meanTime_58 : decode cX6_meanTime 58 = .ok (.aload 4, 2) := by decide +kernel
theorem dX6_meanTime_60 : decode cX6_meanTime 60 = .ok (.invokevirtual 198, 3) := by decide +kernel
theorem dX6_meanTime_63 : decode cX6_meanTime 63 = .ok (.goto 4, 3) := by decide +kernel
theorem dX6_meanTime_66 : decode cX6_meanTime 66 = .ok (.iconst 0, 1) := by decide +kernel
theorem dX6_meanTime_67 : decode cX6_meanTime 67 = .ok (.iadd, 1) := by decide +kernel
theorem dX6_meanTime_68 : decode cX6_meanTime 68 = .ok (.istore_n 2, 1) := by decide +kernel
theorem dX6_meanTime_69 : decode cX6_meanTime 69 = .ok (.iinc 3 1, 3) := by decide +kernel
theorem dX6_meanTime_72 : decode cX6_meanTime 72 = .ok (.goto (-45), 3) := by decide +kernel
theorem dX6_meanTime_75 : decode cX6_meanTime 75 = .ok (.iload_n 2, 1) := by decide +kernel
theorem dX6_meanTime_76 : decode cX6_meanTime 76 = .ok (.i2d, 1) := by decide +kernel
theorem dX6_meanTime_77 : decode cX6_meanTime 77 = .ok (.iload_n 1, 1) := by decide +kernel
theorem dX6_meanTime_78 : decode cX6_meanTime 78 = .ok (.i2d, 1) := by decide +kernel
theorem dX6_meanTime_79 : decode cX6_meanTime 79 = .ok (.ddiv, 1) := by decide +kernel
theorem dX6_meanTime_80 : decode cX6_meanTime 80 = .ok (.dreturn, 1) := by decide +kernel
theorem dX6_isSound_0 : decode cX6_isSound 0 = .ok (.iconst 0, 1) := by decide +kernel
theorem dX6_isSound_1 : decode cX6_isSound 1 = .ok (.istore_n 1, 1) := by decide +kernel
theorem dX6_isSound_2 : decode cX6_isSound 2 = .ok (.iload_n 1, 1) := by decide +kernel
theorem dX6_isSound_3 : decode cX6_isSound 3 = .ok (.aload_n 0, 1) := by decide +kernel
theorem dX6_isSound_4 : decode cX6_isSound 4 = .ok (.getfield 35, 3) := by decide +kernel
theorem dX6_isSound_7 : decode cX6_isSound 7 = .ok (.getfield 143, 3) := by decide +kernel
theorem dX6_isSound_10 : decode cX6_isSound 10 = .ok (.if_icmp .ge 116, 3) := by decide +kernel
theorem dX6_isSound_13 : decode cX6_isSound 13 = .ok (.aload_n 0, 1) := by decide +kernel
theorem dX6_isSound_14 : decode cX6_isSound 14 = .ok (.getfield 35, 3) := by decide +kernel
theorem dX6_isSound_17 : decode cX6_isSound 17 = .ok (.getfield 148, 3) := by decide +kernel
theorem dX6_isSound_20 : decode cX6_isSound 20 = .ok (.iload_n 1, 1) := by decide +kernel
theorem dX6_isSound_21 : decode cX6_isSound 21 = .ok (.aaload, 1) := by decide +kernel
theorem dX6_isSound_22 : decode cX6_isSound 22 = .ok (.astore_n 2, 1) := by decide +kernel
theorem dX6_isSound_23 : decode cX6_isSound 23 = .ok (.aload_n 0, 1) := by decide +kernel
theorem dX6_isSound_24 : decode cX6_isSound 24 = .ok (.aload_n 2, 1) := by decide +kernel
theorem dX6_isSound_25 : decode cX6_isSound 25 = .ok (.aload_n 2, 1) := by decide +kernel
theorem dX6_isSound_26 : decode cX6_isSound 26 = .ok (.getfield 203, 3) := by decide +kernel
theorem dX6_isSound_29 : decode cX6_isSound 29 = .ok (.invokevirtual 213, 3) := by decide +kernel
theorem dX6_isSound_32 : decode cX6_isSound 32 = .ok (.aload_n 0, 1) := by decide +kernel
theorem dX6_isSound_33 : decode cX6_isSound 33 = .ok (.getfield 28, 3) := by decide +kernel
theorem dX6_isSound_36 : decode cX6_isSound 36 = .ok (.getfield 189, 3) := by decide +kernel
theorem dX6_isSound_39 : decode cX6_isSound 39 = .ok (.ifCond .eq 21, 3) := by decide +kernel
theorem dX6_isSound_42 : decode cX6_isSound 42 = .ok (.aload_n 0, 1) := by decide +kernel
theorem dX6_isSound_43 : decode cX6_isSound 43 = .ok (.getfield 28, 3) := by decide +kernel
theorem dX6_isSound_46 : decode cX6_isSound 46 = .ok (.getfield 180, 3) := by decide +kernel
theorem dX6_isSound_49 : decode cX6_isSound 49 = .ok (.aload_n 2, 1) := by decide +kernel
theorem dX6_isSound_50 : decode cX6_isSound 50 = .ok (.getfield 202, 3) := by decide +kernel
theorem dX6_isSound_53 : decode cX6_isSound 53 = .ok (.if_icmp .ne 7, 3) := by decide +kernel
theorem dX6_isSound_56 : decode cX6_isSound 56 = .ok (.iconst 1, 1) := by decide +kernel
theorem dX6_isSound_57 : decode cX6_isSound 57 = .ok (.goto 4, 3) := by decide +kernel
theorem dX6_isSound_60 : decode cX6_isSound 60 = .ok (.iconst 0, 1) := by decide +kernel
theorem dX6_isSound_61 : decode cX6_isSound 61 = .ok (.istore_n 3, 1) := by decide +kernel
theorem dX6_isSound_62 : decode cX6_isSound 62 = .ok (.aload_n 0, 1) := by decide +kernel
theorem dX6_isSound_63 : decode cX6_isSound 63 = .ok (.getfield 35, 3) := by decide +kernel
theorem dX6_isSound_66 : decode cX6_isSound 66 = .ok (.aload_n 2, 1) := by decide +kernel
theorem dX6_isSound_67 : decode cX6_isSound 67 = .ok (.getfield 236, 3) := by decide +kernel
theorem dX6_isSound_70 : decode cX6_isSound 70 = .ok (.invokevirtual 225, 3) := by decide +kernel
theorem dX6_isSound_73 : decode cX6_isSound 73 = .ok (.ifCond .eq 25, 3) := by decide +kernel
theorem dX6_isSound_76 : decode cX6_isSound 76 = .ok (.aload_n 0, 1) := by decide +kernel
theorem dX6_isSound_77 : decode cX6_isSound 77 = .ok (.getfield 35, 3) := by decide +kernel
theorem dX6_isSound_80 : decode cX6_isSound 80 = .ok (.getfield 148, 3) := by decide +kernel
theorem dX6_isSound_83 : decode cX6_isSound 83 = .ok (.aload_n 2, 1) := by decide +kernel
theorem dX6_isSound_84 : decode cX6_isSound 84 = .ok (.getfield 236, 3) := by decide +kernel
theorem dX6_isSound_87 : decode cX6_isSound 87 = .ok (.aaload, 1) := by decide +kernel
theorem dX6_isSound_88 : decode cX6_isSound 88 = .ok (.getfield 250, 3) := by decide +kernel
theorem dX6_isSound_91 : decode cX6_isSound 91 = .ok (.ifCond .ne 7, 3) := by decide +kernel
theorem dX6_isSound_94 : decode cX6_isSound 94 = .ok (.iconst 1, 1) := by decide +kernel
theorem dX6_isSound_95 : decode cX6_isSound 95 = .ok (.goto 4, 3) := by decide +kernel
theorem dX6_isSound_98 : decode cX6_isSound 98 = .ok (.iconst 0, 1) := by decide +kernel
theorem dX6_isSound_99 : decode cX6_isSound 99 = .ok (.istore 4, 2) := by decide +kernel
theorem dX6_isSound_101 : decode cX6_isSound 101 = .ok (.iload_n 3, 1) := by decide +kernel
theorem dX6_isSound_102 : decode cX6_isSound 102 = .ok (.ifCond .eq 16, 3) := by decide +kernel
theorem dX6_isSound_105 : decode cX6_isSound 105 = .ok (.iload 4, 2) := by decide +kernel
theorem dX6_isSound_107 : decode cX6_isSound 107 = .ok (.ifCond .ne 11, 3) := by decide +kernel
theorem dX6_isSound_110 : decode cX6_isSound 110 = .ok (.aload_n 2, 1) := by decide +kernel
theorem dX6_isSound_111 : decode cX6_isSound 111 = .ok (.getfield 241, 3) := by decide +kernel
theorem dX6_isSound_114 : decode cX6_isSound 114 = .ok (.iconst 5, 1) := by decide +kernel
theorem dX6_isSound_115 : decode cX6_isSound 115 = .ok (.if_icmp .le 5, 3) := by decide +kernel
theorem dX6_isSound_118 : decode cX6_isSound 118 = .ok (.iconst 0, 1) := by decide +kernel
theorem dX6_isSound_119 : decode cX6_isSound 119 = .ok (.ireturn, 1) := by decide +kernel
theorem dX6_isSound_120 : decode cX6_isSound 120 = .ok (.iinc 1 1, 3) := by decide +kernel
theorem dX6_isSound_123 : decode cX6_isSound 123 = .ok (.goto (-121), 3) := by decide +kernel
theorem dX6_isSound_126 : decode cX6_isSound 126 = .ok (.iconst 1, 1) := by decide +kernel
theorem dX6_isSound_127 : decode cX6_isSound 127 = .ok (.ireturn, 1) := by decide +kernel
theorem dX6_rideAgain_0 : decode cX6_rideAgain 0 = .ok (.aload_n 0, 1) := by decide +kernel
theorem dX6_rideAgain_1 : decode cX6_rideAgain 1 = .ok (.getfield 28, 3) := by decide +kernel
theorem dX6_rideAgain_4 : decode cX6_rideAgain 4 = .ok (.aload_n 1, 1) := by decide +kernel
theorem dX6_rideAgain_5 : decode cX6_rideAgain 5 = .ok (.getfield 208, 3) := by decide +kernel
theorem dX6_rideAgain_8 : decode cX6_rideAgain 8 = .ok (.iload_n 2, 1) := by decide +kernel
theorem dX6_rideAgain_9 : decode cX6_rideAgain 9 = .ok (.aload_n 0, 1) := by decide +kernel
theorem dX6_rideAgain_10 : decode cX6_rideAgain 10 = .ok (.aload_n 1, 1) := by decide +kernel
theorem dX6_rideAgain_11 : decode cX6_rideAgain 11 = .ok (.getfield 157, 3) := by decide +kernel
theorem dX6_rideAgain_14 : decode cX6_rideAgain 14 = .ok (.invokevirtual 59, 3) := by decide +kernel
theorem dX6_rideAgain_17 : decode cX6_rideAgain 17 = .ok (.aload_n 0, 1) := by decide +kernel
theorem dX6_rideAgain_18 : decode cX6_rideAgain 18 = .ok (.aload_n 1, 1) := by decide +kernel
theorem dX6_rideAgain_19 : decode cX6_rideAgain 19 = .ok (.getfield 160, 3) := by decide +kernel
theorem dX6_rideAgain_22 : decode cX6_rideAgain 22 = .ok (.invokevirtual 129, 3) := by decide +kernel
theorem dX6_rideAgain_25 : decode cX6_rideAgain 25 = .ok (.invokevirtual 185, 3) := by decide +kernel
theorem dX6_rideAgain_28 : decode cX6_rideAgain 28 = .ok (.return_, 1) := by decide +kernel
theorem dX6_isWithin_0 : decode cX6_isWithin 0 = .ok (.iload_n 0, 1) := by decide +kernel
theorem dX6_isWithin_1 : decode cX6_isWithin 1 = .ok (.iload_n 1, 1) := by decide +kernel
theorem dX6_isWithin_2 : decode cX6_isWithin 2 = .ok (.if_icmp .lt 12, 3) := by decide +kernel
theorem dX6_isWithin_5 : decode cX6_isWithin 5 = .ok (.iload_n 0, 1) := by decide +kernel
theorem dX6_isWithin_6 : decode cX6_isWithin 6 = .ok (.iload_n 2, 1) := by decide +kernel
theorem dX6_isWithin_7 : decode cX6_isWithin 7 = .ok (.if_icmp .gt 7, 3) := by decide +kernel
theorem dX6_isWithin_10 : decode cX6_isWithin 10 = .ok (.iconst 1, 1) := by decide +kernel
theorem dX6_isWithin_11 : decode cX6_isWithin 11 = .ok (.goto 4, 3) := by decide +kernel
theorem dX6_isWithin_14 : decode cX6_isWithin 14 = .ok (.iconst 0, 1) := by decide +kernel
theorem dX6_isWithin_15 : decode cX6_isWithin 15 = .ok (.ireturn, 1) := by decide +kernel
theorem dX6_trackNumbered_0 : decode cX6_trackNumbered 0 = .ok (.iload_n 1, 1) := by decide +kernel
theorem dX6_trackNumbered_1 : decode cX6_trackNumbered 1 = .ok (.ifCond .lt 11, 3) := by decide +kernel
theorem dX6_trackNumbered_4 : decode cX6_trackNumbered 4 = .ok (.iload_n 1, 1) := by decide +kernel
theorem dX6_trackNumbered_5 : decode cX6_trackNumbered 5 = .ok (.aload_n 0, 1) := by decide +kernel
theorem dX6_trackNumbered_6 : decode cX6_trackNumbered 6 = .ok (.getfield 48, 3) := by decide +kernel
theorem dX6_trackNumbered_9 : decode cX6_trackNumbered 9 = .ok (.if_icmp .lt 14, 3) := by decide +kernel
theorem dX6_trackNumbered_12 : decode cX6_trackNumbered 12 = .ok (.new 289, 3) := by decide +kernel
theorem dX6_trackNumbered_15 : decode cX6_trackNumbered 15 = .ok (.dup, 1) := by decide +kernel
theorem dX6_trackNumbered_16 : decode cX6_trackNumbered 16 = .ok (.ldc_w 333, 3) := by decide +kernel
theorem dX6_trackNumbered_19 : decode cX6_trackNumbered 19 = .ok (.invokespecial 293, 3) := by decide +kernel
theorem dX6_trackNumbered_22 : decode cX6_trackNumbered 22 = .ok (.athrow, 1) := by decide +kernel
theorem dX6_trackNumbered_23 : decode cX6_trackNumbered 23 = .ok (.aload_n 0, 1) := by decide +kernel
theorem dX6_trackNumbered_24 : decode cX6_trackNumbered 24 = .ok (.getfield 11, 3) := by decide +kernel
theorem dX6_trackNumbered_27 : decode cX6_trackNumbered 27 = .ok (.iload_n 1, 1) := by decide +kernel
theorem dX6_trackNumbered_28 : decode cX6_trackNumbered 28 = .ok (.aaload, 1) := by decide +kernel
theorem dX6_trackNumbered_29 : decode cX6_trackNumbered 29 = .ok (.areturn, 1) := by decide +kernel
theorem dX6_carNumbered_0 : decode cX6_carNumbered 0 = .ok (.iload_n 1, 1) := by decide +kernel
theorem dX6_carNumbered_1 : decode cX6_carNumbered 1 = .ok (.ifCond .lt 11, 3) := by decide +kernel
theorem dX6_carNumbered_4 : decode cX6_carNumbered 4 = .ok (.iload_n 1, 1) := by decide +kernel
theorem dX6_carNumbered_5 : decode cX6_carNumbered 5 = .ok (.aload_n 0, 1) := by decide +kernel
theorem dX6_carNumbered_6 : decode cX6_carNumbered 6 = .ok (.getfield 95, 3) := by decide +kernel
theorem dX6_carNumbered_9 : decode cX6_carNumbered 9 = .ok (.if_icmp .lt 14, 3) := by decide +kernel
theorem dX6_carNumbered_12 : decode cX6_carNumbered 12 = .ok (.new 289, 3) := by decide +kernel
theorem dX6_carNumbered_15 : decode cX6_carNumbered 15 = .ok (.dup, 1) := by decide +kernel
theorem dX6_carNumbered_16 : decode cX6_carNumbered 16 = .ok (.ldc_w 335, 3) := by decide +kernel
theorem dX6_carNumbered_19 : decode cX6_carNumbered 19 = .ok (.invokespecial 293, 3) := by decide +kernel
theorem dX6_carNumbered_22 : decode cX6_carNumbered 22 = .ok (.athrow, 1) := by decide +kernel
theorem dX6_carNumbered_23 : decode cX6_carNumbered 23 = .ok (.aload_n 0, 1) := by decide +kernel
theorem dX6_carNumbered_24 : decode cX6_carNumbered 24 = .ok (.getfield 17, 3) := by decide +kernel
theorem dX6_carNumbered_27 : decode cX6_carNumbered 27 = .ok (.iload_n 1, 1) := by decide +kernel
theorem dX6_carNumbered_28 : decode cX6_carNumbered 28 = .ok (.aaload, 1) := by decide +kernel
theorem dX6_carNumbered_29 : decode cX6_carNumbered 29 = .ok (.areturn, 1) := by decide +kernel
theorem dX6_lapNumbered_0 : decode cX6_lapNumbered 0 = .ok (.aload_n 0, 1) := by decide +kernel
theorem dX6_lapNumbered_1 : decode cX6_lapNumbered 1 = .ok (.getfield 35, 3) := by decide +kernel
theorem dX6_lapNumbered_4 : decode cX6_lapNumbered 4 = .ok (.iload_n 1, 1) := by decide +kernel
theorem dX6_lapNumbered_5 : decode cX6_lapNumbered 5 = .ok (.invokevirtual 225, 3) := by decide +kernel
theorem dX6_lapNumbered_8 : decode cX6_lapNumbered 8 = .ok (.ifCond .ne 14, 3) := by decide +kernel
theorem dX6_lapNumbered_11 : decode cX6_lapNumbered 11 = .ok (.new 289, 3) := by decide +kernel
theorem dX6_lapNumbered_14 : decode cX6_lapNumbered 14 = .ok (.dup, 1) := by decide +kernel
theorem dX6_lapNumbered_15 : decode cX6_lapNumbered 15 = .ok (.ldc_w 337, 3) := by decide +kernel
theorem dX6_lapNumbered_18 : decode cX6_lapNumbered 18 = .ok (.invokespecial 293, 3) := by decide +kernel
theorem dX6_lapNumbered_21 : decode cX6_lapNumbered 21 = .ok (.athrow, 1) := by decide +kernel
theorem dX6_lapNumbered_22 : decode cX6_lapNumbered 22 = .ok (.aload_n 0, 1) := by decide +kernel
theorem dX6_lapNumbered_23 : decode cX6_lapNumbered 23 = .ok (.getfield 35, 3) := by decide +kernel
theorem dX6_lapNumbered_26 : decode cX6_lapNumbered 26 = .ok (.getfield 148, 3) := by decide +kernel
theorem dX6_lapNumbered_29 : decode cX6_lapNumbered 29 = .ok (.iload_n 1, 1) := by decide +kernel
theorem dX6_lapNumbered_30 : decode cX6_lapNumbered 30 = .ok (.aaload, 1) := by decide +kernel
theorem dX6_lapNumbered_31 : decode cX6_lapNumbered 31 = .ok (.areturn, 1) := by decide +kernel
theorem dX6_requireDriver_0 : decode cX6_requireDriver 0 = .ok (.iload_n 1, 1) := by decide +kernel
theorem dX6_requireDriver_1 : decode cX6_requireDriver 1 = .ok (.ifCond .lt 9, 3) := by decide +kernel
theorem dX6_requireDriver_4 : decode cX6_requireDriver 4 = .ok (.iload_n 1, 1) := by decide +kernel
theorem dX6_requireDriver_5 : decode cX6_requireDriver 5 = .ok (.bipush 6, 2) := by decide +kernel
theorem dX6_requireDriver_7 : decode cX6_requireDriver 7 = .ok (.if_icmp .lt 14, 3) := by decide +kernel
theorem dX6_requireDriver_10 : decode cX6_requireDriver 10 = .ok (.new 289, 3) := by decide +kernel
theorem dX6_requireDriver_13 : decode cX6_requireDriver 13 = .ok (.dup, 1) := by decide +kernel
theorem dX6_requireDriver_14 : decode cX6_requireDriver 14 = .ok (.ldc_w 339, 3) := by decide +kernel
theorem dX6_requireDriver_17 : decode cX6_requireDriver 17 = .ok (.invokespecial 293, 3) := by decide +kernel
theorem dX6_requireDriver_20 : decode cX6_requireDriver 20 = .ok (.athrow, 1) := by decide +kernel
theorem dX6_requireDriver_21 : decode cX6_requireDriver 21 = .ok (.return_, 1) := by decide +kernel
theorem dJ9_max_7cf53_0 : decode cJ9_max_7cf53 0 = .ok (.iload_n 0, 1) := by decide +kernel
theorem dJ9_max_7cf53_1 : decode cJ9_max_7cf53 1 = .ok (.iload_n 1, 1) := by decide +kernel
theorem dJ9_max_7cf53_2 : decode cJ9_max_7cf53 2 = .ok (.if_icmp .lt 7, 3) := by decide +kernel
theorem dJ9_max_7cf53_5 : decode cJ9_max_7cf53 5 = .ok (.iload_n 0, 1) := by decide +kernel
theorem dJ9_max_7cf53_6 : decode cJ9_max_7cf53 6 = .ok (.goto 4, 3) := by decide +kernel
theorem dJ9_max_7cf53_9 : decode cJ9_max_7cf53 9 = .ok (.iload_n 1, 1) := by decide +kernel
theorem dJ9_max_7cf53_10 : decode cJ9_max_7cf53 10 = .ok (.ireturn, 1) := by decide +kernel
theorem dJ9_min_7cf53_0 : decode cJ9_min_7cf53 0 = .ok (.iload_n 0, 1) := by decide +kernel
theorem dJ9_min_7cf53_1 : decode cJ9_min_7cf53 1 = .ok (.iload_n 1, 1) := by decide +kernel
theorem dJ9_min_7cf53_2 : decode cJ9_min_7cf53 2 = .ok (.if_icmp .gt 7, 3) := by decide +kernel
theorem dJ9_min_7cf53_5 : decode cJ9_min_7cf53 5 = .ok (.iload_n 0, 1) := by decide +kernel
theorem dJ9_min_7cf53_6 : decode cJ9_min_7cf53 6 = .ok (.goto 4, 3) := by decide +kernel
theorem dJ9_min_7cf53_9 : decode cJ9_min_7cf53 9 = .ok (.iload_n 1, 1) := by decide +kernel
theorem dJ9_min_7cf53_10 : decode cJ9_min_7cf53 10 = .ok (.ireturn, 1) := by decide +kernel
