theorem dX2_isLate_28 : decode cX2_isLate 28 = .ok (.goto 4, 3) := by decide +kernel
theorem dX2_isLate_31 : decode cX2_isLate 31 = .ok (.iconst 0, 1) := by decide +kernel
theorem dX2_isLate_32 : decode cX2_isLate 32 = .ok (.ireturn, 1) := by decide +kernel
theorem dX2_addLate_0 : decode cX2_addLate 0 = .ok (.iload_n 2, 1) := by decide +kernel
theorem dX2_addLate_1 : decode cX2_addLate 1 = .ok (.ifCond .lt 34, 3) := by decide +kernel
theorem dX2_addLate_4 : decode cX2_addLate 4 = .ok (.iload_n 2, 1) := by decide +kernel
theorem dX2_addLate_5 : decode cX2_addLate 5 = .ok (.aload_n 0, 1) := by decide +kernel
theorem dX2_addLate_6 : decode cX2_addLate 6 = .ok (.getfield 15, 3) := by decide +kernel
theorem dX2_addLate_9 : decode cX2_addLate 9 = .ok (.arraylength, 1) := by decide +kernel
theorem dX2_addLate_10 : decode cX2_addLate 10 = .ok (.if_icmp .ge 25, 3) := by decide +kernel
theorem dX2_addLate_13 : decode cX2_addLate 13 = .ok (.aload_n 0, 1) := by decide +kernel
theorem dX2_addLate_14 : decode cX2_addLate 14 = .ok (.getfield 15, 3) := by decide +kernel
theorem dX2_addLate_17 : decode cX2_addLate 17 = .ok (.iload_n 2, 1) := by decide +kernel
theorem dX2_addLate_18 : decode cX2_addLate 18 = .ok (.dup2, 1) := by decide +kernel
theorem dX2_addLate_19 : decode cX2_addLate 19 = .ok (.iaload, 1) := by decide +kernel
theorem dX2_addLate_20 : decode cX2_addLate 20 = .ok (.iconst 1, 1) := by decide +kernel
theorem dX2_addLate_21 : decode cX2_addLate 21 = .ok (.iload_n 1, 1) := by decide +kernel
theorem dX2_addLate_22 : decode cX2_addLate 22 = .ok (.ishl, 1) := by decide +kernel
theorem dX2_addLate_23 : decode cX2_addLate 23 = .ok (.ior, 1) := by decide +kernel
theorem dX2_addLate_24 : decode cX2_addLate 24 = .ok (.iastore, 1) := by decide +kernel
theorem dX2_addLate_25 : decode cX2_addLate 25 = .ok (.aload_n 0, 1) := by decide +kernel
theorem dX2_addLate_26 : decode cX2_addLate 26 = .ok (.dup, 1) := by decide +kernel
theorem dX2_addLate_27 : decode cX2_addLate 27 = .ok (.getfield 27, 3) := by decide +kernel
theorem dX2_addLate_30 : decode cX2_addLate 30 = .ok (.iconst 1, 1) := by decide +kernel
theorem dX2_addLate_31 : decode cX2_addLate 31 = .ok (.iadd, 1) := by decide +kernel
theorem dX2_addLate_32 : decode cX2_addLate 32 = .ok (.putfield 27, 3) := by decide +kernel
theorem dX2_addLate_35 : decode cX2_addLate 35 = .ok (.aload_n 0, 1) := by decide +kernel
theorem dX2_addLate_36 : decode cX2_addLate 36 = .ok (.getfield 27, 3) := by decide +kernel
theorem dX2_addLate_39 : decode cX2_addLate 39 = .ok (.ireturn, 1) := by decide +kernel
theorem dX3_init_0 : decode cX3_init 0 = .ok (.aload_n 0, 1) := by decide +kernel
theorem dX3_init_1 : decode cX3_init 1 = .ok (.invokespecial 3, 3) := by decide +kernel
theorem dX3_init_4 : decode cX3_init 4 = .ok (.aload_n 0, 1) := by decide +kernel
theorem dX3_init_5 : decode cX3_init 5 = .ok (.bipush (-9), 2) := by decide +kernel
theorem dX3_init_7 : decode cX3_init 7 = .ok (.putfield 9, 3) := by decide +kernel
theorem dX3_init_10 : decode cX3_init 10 = .ok (.aload_n 0, 1) := by decide +kernel
theorem dX3_init_11 : decode cX3_init 11 = .ok (.iconst 5, 1) := by decide +kernel
theorem dX3_init_12 : decode cX3_init 12 = .ok (.newarray .int, 2) := by decide +kernel
theorem dX3_init_14 : decode cX3_init 14 = .ok (.putfield 15, 3) := by decide +kernel
theorem dX3_init_17 : decode cX3_init 17 = .ok (.aload_n 0, 1) := by decide +kernel
theorem dX3_init_18 : decode cX3_init 18 = .ok (.iload_n 1, 1) := by decide +kernel
theorem dX3_init_19 : decode cX3_init 19 = .ok (.putfield 19, 3) := by decide +kernel
theorem dX3_init_22 : decode cX3_init 22 = .ok (.aload_n 0, 1) := by decide +kernel
theorem dX3_init_23 : decode cX3_init 23 = .ok (.aload_n 2, 1) := by decide +kernel
theorem dX3_init_24 : decode cX3_init 24 = .ok (.putfield 22, 3) := by decide +kernel
theorem dX3_init_27 : decode cX3_init 27 = .ok (.aload_n 0, 1) := by decide +kernel
theorem dX3_init_28 : decode cX3_init 28 = .ok (.aload_n 3, 1) := by decide +kernel
theorem dX3_init_29 : decode cX3_init 29 = .ok (.putfield 26, 3) := by decide +kernel
theorem dX3_init_32 : decode cX3_init 32 = .ok (.aload_n 0, 1) := by decide +kernel
theorem dX3_init_33 : decode cX3_init 33 = .ok (.iload 4, 2) := by decide +kernel
theorem dX3_init_35 : decode cX3_init 35 = .ok (.putfield 29, 3) := by decide +kernel
theorem dX3_init_38 : decode cX3_init 38 = .ok (.aload_n 0, 1) := by decide +kernel
theorem dX3_init_39 : decode cX3_init 39 = .ok (.iload 6, 2) := by decide +kernel
theorem dX3_init_41 : decode cX3_init 41 = .ok (.putfield 32, 3) := by decide +kernel
theorem dX3_init_44 : decode cX3_init 44 = .ok (.aload_n 0, 1) := by decide +kernel
theorem dX3_init_45 : decode cX3_init 45 = .ok (.iload 5, 2) := by decide +kernel
theorem dX3_init_47 : decode cX3_init 47 = .ok (.putfield 35, 3) := by decide +kernel
theorem dX3_init_50 : decode cX3_init 50 = .ok (.return_, 1) := by decide +kernel
theorem dX3_isDue_0 : decode cX3_isDue 0 = .ok (.aload_n 0, 1) := by decide +kernel
theorem dX3_isDue_1 : decode cX3_isDue 1 = .ok (.getfield 35, 3) := by decide +kernel
theorem dX3_isDue_4 : decode cX3_isDue 4 = .ok (.iload_n 1, 1) := by decide +kernel
theorem dX3_isDue_5 : decode cX3_isDue 5 = .ok (.if_icmp .ne 22, 3) := by decide +kernel
theorem dX3_isDue_8 : decode cX3_isDue 8 = .ok (.aload_n 0, 1) := by decide +kernel
theorem dX3_isDue_9 : decode cX3_isDue 9 = .ok (.getfield 38, 3) := by decide +kernel
theorem dX3_isDue_12 : decode cX3_isDue 12 = .ok (.ifCond .eq 11, 3) := by decide +kernel
theorem dX3_isDue_15 : decode cX3_isDue 15 = .ok (.iload_n 1, 1) := by decide +kernel
theorem dX3_isDue_16 : decode cX3_isDue 16 = .ok (.aload_n 0, 1) := by decide +kernel
theorem dX3_isDue_17 : decode cX3_isDue 17 = .ok (.getfield 42, 3) := by decide +kernel
theorem dX3_isDue_20 : decode cX3_isDue 20 = .ok (.if_icmp .ge 7, 3) := by decide +kernel
theorem dX3_isDue_23 : decode cX3_isDue 23 = .ok (.iconst 1, 1) := by decide +kernel
theorem dX3_isDue_24 : decode cX3_isDue 24 = .ok (.goto 4, 3) := by decide +kernel
theorem dX3_isDue_27 : decode cX3_isDue 27 = .ok (.iconst 0, 1) := by decide +kernel
theorem dX3_isDue_28 : decode cX3_isDue 28 = .ok (.ireturn, 1) := by decide +kernel
theorem dX3_setNextDue_0 : decode cX3_setNextDue 0 = .ok (.aload_n 0, 1) := by decide +kernel
theorem dX3_setNextDue_1 : decode cX3_setNextDue 1 = .ok (.aload_n 0, 1) := by decide +kernel
theorem dX3_setNextDue_2 : decode cX3_setNextDue 2 = .ok (.getfield 32, 3) := by decide +kernel
theorem dX3_setNextDue_5 : decode cX3_setNextDue 5 = .ok (.ifCond .ne 8, 3) := by decide +kernel
theorem dX3_setNextDue_8 : decode cX3_setNextDue 8 = .ok (.bipush (-9), 2) := by decide +kernel
theorem dX3_setNextDue_10 : decode cX3_setNextDue 10 = .ok (.goto 12, 3) := by decide +kernel
theorem dX3_setNextDue_13 : decode cX3_setNextDue 13 = .ok (.aload_n 0, 1) := by decide +kernel
theorem dX3_setNextDue_14 : decode cX3_setNextDue 14 = .ok (.getfield 35, 3) := by decide +kernel
theorem dX3_setNextDue_17 : decode cX3_setNextDue 17 = .ok (.aload_n 0, 1) := by decide +kernel
theorem dX3_setNextDue_18 : decode cX3_setNextDue 18 = .ok (.getfield 32, 3) := by decide +kernel
theorem dX3_setNextDue_21 : decode cX3_setNextDue 21 = .ok (.iadd, 1) := by decide +kernel
theorem dX3_setNextDue_22 : decode cX3_setNextDue 22 = .ok (.putfield 35, 3) := by decide +kernel
theorem dX3_setNextDue_25 : decode cX3_setNextDue 25 = .ok (.return_, 1) := by decide +kernel
theorem dX3_addBack_0 : decode cX3_addBack 0 = .ok (.iload_n 1, 1) := by decide +kernel
theorem dX3_addBack_1 : decode cX3_addBack 1 = .ok (.ifCond .lt 22, 3) := by decide +kernel
theorem dX3_addBack_4 : decode cX3_addBack 4 = .ok (.iload_n 1, 1) := by decide +kernel
theorem dX3_addBack_5 : decode cX3_addBack 5 = .ok (.aload_n 0, 1) := by decide +kernel
theorem dX3_addBack_6 : decode cX3_addBack 6 = .ok (.getfield 15, 3) := by decide +kernel
theorem dX3_addBack_9 : decode cX3_addBack 9 = .ok (.arraylength, 1) := by decide +kernel
theorem dX3_addBack_10 : decode cX3_addBack 10 = .ok (.if_icmp .ge 13, 3) := by decide +kernel
theorem dX3_addBack_13 : decode cX3_addBack 13 = .ok (.aload_n 0, 1) := by decide +kernel
theorem dX3_addBack_14 : decode cX3_addBack 14 = .ok (.getfield 15, 3) := by decide +kernel
theorem dX3_addBack_17 : decode cX3_addBack 17 = .ok (.iload_n 1, 1) := by decide +kernel
theorem dX3_addBack_18 : decode cX3_addBack 18 = .ok (.dup2, 1) := by decide +kernel
theorem dX3_addBack_19 : decode cX3_addBack 19 = .ok (.iaload, 1) := by decide +kernel
theorem dX3_addBack_20 : decode cX3_addBack 20 = .ok (.iconst 1, 1) := by decide +kernel
theorem dX3_addBack_21 : decode cX3_addBack 21 = .ok (.iadd, 1) := by decide +kernel
theorem dX3_addBack_22 : decode cX3_addBack 22 = .ok (.iastore, 1) := by decide +kernel
theorem dX3_addBack_23 : decode cX3_addBack 23 = .ok (.return_, 1) := by decide +kernel
theorem dX3_timesBack_0 : decode cX3_timesBack 0 = .ok (.iload_n 1, 1) := by decide +kernel
theorem dX3_timesBack_1 : decode cX3_timesBack 1 = .ok (.ifCond .lt 21, 3) := by decide +kernel
theorem dX3_timesBack_4 : decode cX3_timesBack 4 = .ok (.iload_n 1, 1) := by decide +kernel
theorem dX3_timesBack_5 : decode cX3_timesBack 5 = .ok (.aload_n 0, 1) := by decide +kernel
theorem dX3_timesBack_6 : decode cX3_timesBack 6 = .ok (.getfield 15, 3) := by decide +kernel
theorem dX3_timesBack_9 : decode cX3_timesBack 9 = .ok (.arraylength, 1) := by decide +kernel
theorem dX3_timesBack_10 : decode cX3_timesBack 10 = .ok (.if_icmp .ge 12, 3) := by decide +kernel
theorem dX3_timesBack_13 : decode cX3_timesBack 13 = .ok (.aload_n 0, 1) := by decide +kernel
theorem dX3_timesBack_14 : decode cX3_timesBack 14 = .ok (.getfield 15, 3) := by decide +kernel
theorem dX3_timesBack_17 : decode cX3_timesBack 17 = .ok (.iload_n 1, 1) := by decide +kernel
theorem dX3_timesBack_18 : decode cX3_timesBack 18 = .ok (.iaload, 1) := by decide +kernel
theorem dX3_timesBack_19 : decode cX3_timesBack 19 = .ok (.goto 4, 3) := by decide +kernel
theorem dX3_timesBack_22 : decode cX3_timesBack 22 = .ok (.iconst 0, 1) := by decide +kernel
theorem dX3_timesBack_23 : decode cX3_timesBack 23 = .ok (.ireturn, 1) := by decide +kernel
theorem dX4_init_0 : decode cX4_init 0 = .ok (.aload_n 0, 1) := by decide +kernel
theorem dX4_init_1 : decode cX4_init 1 = .ok (.invokespecial 3, 3) := by decide +kernel
theorem dX4_init_4 : decode cX4_init 4 = .ok (.aload_n 0, 1) := by decide +kernel
theorem dX4_init_5 : decode cX4_init 5 = .ok (.bipush (-9), 2) := by decide +kernel
theorem dX4_init_7 : decode cX4_init 7 = .ok (.putfield 9, 3) := by decide +kernel
theorem dX4_init_10 : decode cX4_init 10 = .ok (.aload_n 0, 1) := by decide +kernel
theorem dX4_init_11 : decode cX4_init 11 = .ok (.iconst 1, 1) := by decide +kernel
theorem dX4_init_12 : decode cX4_init 12 = .ok (.putfield 15, 3) := by decide +kernel
theorem dX4_init_15 : decode cX4_init 15 = .ok (.aload_n 0, 1) := by decide +kernel
theorem dX4_init_16 : decode cX4_init 16 = .ok (.aload_n 1, 1) := by decide +kernel
theorem dX4_init_17 : decode cX4_init 17 = .ok (.putfield 19, 3) := by decide +kernel
theorem dX4_init_20 : decode cX4_init 20 = .ok (.aload_n 0, 1) := by decide +kernel
theorem dX4_init_21 : decode cX4_init 21 = .ok (.aload_n 2, 1) := by decide +kernel
theorem dX4_init_22 : decode cX4_init 22 = .ok (.putfield 23, 3) := by decide +kernel
theorem dX4_init_25 : decode cX4_init 25 = .ok (.aload_n 0, 1) := by decide +kernel
theorem dX4_init_26 : decode cX4_init 26 = .ok (.iload_n 3, 1) := by decide +kernel
theorem dX4_init_27 : decode cX4_init 27 = .ok (.putfield 26, 3) := by decide +kernel
theorem dX4_init_30 : decode cX4_init 30 = .ok (.aload_n 0, 1) := by decide +kernel
theorem dX4_init_31 : decode cX4_init 31 = .ok (.iload 4, 2) := by decide +kernel
theorem dX4_init_33 : decode cX4_init 33 = .ok (.putfield 29, 3) := by decide +kernel
theorem dX4_init_36 : decode cX4_init 36 = .ok (.return_, 1) := by decide +kernel
theorem dX4_has_0 : decode cX4_has 0 = .ok (.aload_n 0, 1) := by decide +kernel
theorem dX4_has_1 : decode cX4_has 1 = .ok (.getfield 19, 3) := by decide +kernel
theorem dX4_has_4 : decode cX4_has 4 = .ok (.aload_n 1, 1) := by decide +kernel
theorem dX4_has_5 : decode cX4_has 5 = .ok (.if_acmp .eq 11, 3) := by decide +kernel
theorem dX4_has_8 : decode cX4_has 8 = .ok (.aload_n 0, 1) := by decide +kernel
theorem dX4_has_9 : decode cX4_has 9 = .ok (.getfield 23, 3) := by decide +kernel
theorem dX4_has_12 : decode cX4_has 12 = .ok (.aload_n 1, 1) := by decide +kernel
theorem dX4_has_13 : decode cX4_has 13 = .ok (.if_acmp .ne 7, 3) := by decide +kernel
theorem dX4_has_16 : decode cX4_has 16 = .ok (.iconst 1, 1) := by decide +kernel
theorem dX4_has_17 : decode cX4_has 17 = .ok (.goto 4, 3) := by decide +kernel
theorem dX4_has_20 : decode cX4_has 20 = .ok (.iconst 0, 1) := by decide +kernel
theorem dX4_has_21 : decode cX4_has 21 = .ok (.ireturn, 1) := by decide +kernel
theorem dX4_addFault_0 : decode cX4_addFault 0 = .ok (.aload_n 0, 1) := by decide +kernel
theorem dX4_addFault_1 : decode cX4_addFault 1 = .ok (.getfield 32, 3) := by decide +kernel
theorem dX4_addFault_4 : decode cX4_addFault 4 = .ok (.ifCond .ne 8, 3) := by decide +kernel
theorem dX4_addFault_7 : decode cX4_addFault 7 = .ok (.aload_n 0, 1) := by decide +kernel
theorem dX4_addFault_8 : decode cX4_addFault 8 = .ok (.aload_n 1, 1) := by decide +kernel
theorem dX4_addFault_9 : decode cX4_addFault 9 = .ok (.putfield 35, 3) := by decide +kernel
theorem dX4_addFault_12 : decode cX4_addFault 12 = .ok (.aload_n 0, 1) := by decide +kernel
theorem dX4_addFault_13 : decode cX4_addFault 13 = .ok (.dup, 1) := by decide +kernel
theorem dX4_addFault_14 : decode cX4_addFault 14 = .ok (.getfield 32, 3) := by decide +kernel
theorem dX4_addFault_17 : decode cX4_addFault 17 = .ok (.iconst 1, 1) := by decide +kernel
theorem dX4_addFault_18 : decode cX4_addFault 18 = .ok (.iadd, 1) := by decide +kernel
theorem dX4_addFault_19 : decode cX4_addFault 19 = .ok (.putfield 32, 3) := by decide +kernel
theorem dX4_addFault_22 : decode cX4_addFault 22 = .ok (.return_, 1) := by decide +kernel
theorem dX4_stop_0 : decode cX4_stop 0 = .ok (.aload_n 0, 1) := by decide +kernel
theorem dX4_stop_1 : decode cX4_stop 1 = .ok (.iconst 0, 1) := by decide +kernel
theorem dX4_stop_2 : decode cX4_stop 2 = .ok (.putfield 15, 3) := by decide +kernel
theorem dX4_stop_5 : decode cX4_stop 5 = .ok (.aload_n 0, 1) := by decide +kernel
theorem dX4_stop_6 : decode cX4_stop 6 = .ok (.iload_n 1, 1) := by decide +kernel
theorem dX4_stop_7 : decode cX4_stop 7 = .ok (.putfield 39, 3) := by decide +kernel
theorem dX4_stop_10 : decode cX4_stop 10 = .ok (.aload_n 0, 1) := by decide +kernel
theorem dX4_stop_11 : decode cX4_stop 11 = .ok (.getfield 19, 3) := by decide +kernel
theorem dX4_stop_14 : decode cX4_stop 14 = .ok (.dup, 1) := by decide +kernel
theorem dX4_stop_15 : decode cX4_stop 15 = .ok (.getfield 42, 3) := by decide +kernel
theorem dX4_stop_18 : decode cX4_stop 18 = .ok (.aload_n 0, 1) := by decide +kernel
theorem dX4_stop_19 : decode cX4_stop 19 = .ok (.getfield 23, 3) := by decide +kernel
theorem dX4_stop_22 : decode cX4_stop 22 = .ok (.getfield 42, 3) := by decide +kernel
theorem dX4_stop_25 : decode cX4_stop 25 = .ok (.ladd, 1) := by decide +kernel
theorem dX4_stop_26 : decode cX4_stop 26 = .ok (.putfield 42, 3) := by decide +kernel
theorem dX4_stop_29 : decode cX4_stop 29 = .ok (.aload_n 0, 1) := by decide +kernel
theorem dX4_stop_30 : decode cX4_stop 30 = .ok (.getfield 23, 3) := by decide +kernel
theorem dX4_stop_33 : decode cX4_stop 33 = .ok (.lconst 0, 1) := by decide +kernel
theorem dX4_stop_34 : decode cX4_stop 34 = .ok (.putfield 42, 3) := by decide +kernel
theorem dX4_stop_37 : decode cX4_stop 37 = .ok (.aload_n 0, 1) := by decide +kernel
theorem dX4_stop_38 : decode cX4_stop 38 = .ok (.getfield 23, 3) := by decide +kernel
theorem dX4_stop_41 : decode cX4_stop 41 = .ok (.iconst 1, 1) := by decide +kernel
theorem dX4_stop_42 : decode cX4_stop 42 = .ok (.putfield 48, 3) := by decide +kernel
theorem dX4_stop_45 : decode cX4_stop 45 = .ok (.return_, 1) := by decide +kernel
theorem dX5_init_0 : decode cX5_init 0 = .ok (.aload_n 0, 1) := by decide +kernel
theorem dX5_init_1 : decode cX5_init 1 = .ok (.invokespecial 3, 3) := by decide +kernel
theorem dX5_init_4 : decode cX5_init 4 = .ok (.aload_n 0, 1) := by decide +kernel
theorem dX5_init_5 : decode cX5_init 5 = .ok (.iload_n 1, 1) := by decide +kernel
theorem dX5_init_6 : decode cX5_init 6 = .ok (.putfield 9, 3) := by decide +kernel
theorem dX5_init_9 : decode cX5_init 9 = .ok (.aload_n 0, 1) := by decide +kernel
theorem dX5_init_10 : decode cX5_init 10 = .ok (.iload_n 2, 1) := by decide +kernel
theorem dX5_init_11 : decode cX5_init 11 = .ok (.putfield 15, 3) := by decide +kernel
theorem dX5_init_14 : decode cX5_init 14 = .ok (.aload_n 0, 1) := by decide +kernel
theorem dX5_init_15 : decode cX5_init 15 = .ok (.aload_n 3, 1) := by decide +kernel
theorem dX5_init_16 : decode cX5_init 16 = .ok (.putfield 18, 3) := by decide +kernel
theorem dX5_init_19 : decode cX5_init 19 = .ok (.return_, 1) := by decide +kernel
theorem dX5_worth_0 : decode cX5_worth 0 = .ok (.iconst 0, 1) := by decide +kernel
theorem dX5_worth_1 : decode cX5_worth 1 = .ok (.istore_n 3, 1) := by decide +kernel
theorem dX5_worth_2 : decode cX5_worth 2 = .ok (.iconst 0, 1) := by decide +kernel
theorem dX5_worth_3 : decode cX5_worth 3 = .ok (.istore 4, 2) := by decide +kernel
theorem dX5_worth_5 : decode cX5_worth 5 = .ok (.iload 4, 2) := by decide +kernel
theorem dX5_worth_7 : decode cX5_worth 7 = .ok (.aload_n 0, 1) := by decide +kernel
theorem dX5_worth_8 : decode cX5_worth 8 = .ok (.getfield 18, 3) := by decide +kernel
theorem dX5_worth_11 : decode cX5_worth 11 = .ok (.arraylength, 1) := by decide +kernel
theorem dX5_worth_12 : decode cX5_worth 12 = .ok (.if_icmp .ge 106, 3) := by decide +kernel
theorem dX5_worth_15 : decode cX5_worth 15 = .ok (.aload_n 0, 1) := by decide +kernel
theorem dX5_worth_16 : decode cX5_worth 16 = .ok (.getfield 18, 3) := by decide +kernel
theorem dX5_worth_19 : decode cX5_worth 19 = .ok (.iload 4, 2) := by decide +kernel
theorem dX5_worth_21 : decode cX5_worth 21 = .ok (.iaload, 1) := by decide +kernel
theorem dX5_worth_22 : decode cX5_worth 22 = .ok (.istore 5, 2) := by decide +kernel
theorem dX5_worth_24 : decode cX5_worth 24 = .ok (.iload 5, 2) := by decide +kernel
theorem dX5_worth_26 : decode cX5_worth 26 = .ok (.ifCond .ge 42, 3) := by decide +kernel
theorem dX5_worth_29 : decode cX5_worth 29 = .ok (.iload_n 3, 1) := by decide +kernel
theorem dX5_worth_30 : decode cX5_worth 30 = .ok (.iconst 2, 1) := by decide +kernel
theorem dX5_worth_31 : decode cX5_worth 31 = .ok (.if_icmp .lt 81, 3) := by decide +kernel
theorem dX5_worth_34 : decode cX5_worth 34 = .ok (.iload_n 3, 1) := by decide +kernel
theorem dX5_worth_35 : decode cX5_worth 35 = .ok (.aload_n 2, 1) := by decide +kernel
theorem dX5_worth_36 : decode cX5_worth 36 = .ok (.arraylength, 1) := by decide +kernel
theorem dX5_worth_37 : decode cX5_worth 37 = .ok (.if_icmp .gt 75, 3) := by decide +kernel
theorem dX5_worth_40 : decode cX5_worth 40 = .ok (.iinc 3 (-1), 3) := by decide +kernel
theorem dX5_worth_43 : decode cX5_worth 43 = .ok (.aload_n 2, 1) := by decide +kernel
theorem dX5_worth_44 : decode cX5_worth 44 = .ok (.iload_n 3, 1) := by decide +kernel
theorem dX5_worth_45 : decode cX5_worth 45 = .ok (.iconst 1, 1) := by decide +kernel
theorem dX5_worth_46 : decode cX5_worth 46 = .ok (.isub, 1) := by decide +kernel
theorem dX5_worth_47 : decode cX5_worth 47 = .ok (.iload 5, 2) := by decide +kernel
theorem dX5_worth_49 : decode cX5_worth 49 = .ok (.ineg, 1) := by decide +kernel
theorem dX5_worth_50 : decode cX5_worth 50 = .ok (.aload_n 2, 1) := by decide +kernel
theorem dX5_worth_51 : decode cX5_worth 51 = .ok (.iload_n 3, 1) := by decide +kernel
theorem dX5_worth_52 : decode cX5_worth 52 = .ok (.iconst 1, 1) := by decide +kernel
theorem dX5_worth_53 : decode cX5_worth 53 = .ok (.isub, 1) := by decide +kernel
theorem dX5_worth_54 : decode cX5_worth 54 = .ok (.laload, 1) := by decide +kernel
theorem dX5_worth_55 : decode cX5_worth 55 = .ok (.aload_n 2, 1) := by decide +kernel
theorem dX5_worth_56 : decode cX5_worth 56 = .ok (.iload_n 3, 1) := by decide +kernel
theorem dX5_worth_57 : decode cX5_worth 57 = .ok (.laload, 1) := by decide +kernel
theorem dX5_worth_58 : decode cX5_worth 58 = .ok (.invokestatic 22, 3) := by decide +kernel
theorem dX5_worth_61 : decode cX5_worth 61 = .ok (.invokestatic 26, 3) := by decide +kernel
theorem dX5_worth_64 : decode cX5_worth 64 = .ok (.lastore, 1) := by decide +kernel
theorem dX5_worth_65 : decode cX5_worth 65 = .ok (.goto 47, 3) := by decide +kernel
theorem dX5_worth_68 : decode cX5_worth 68 = .ok (.iload_n 3, 1) := by decide +kernel
theorem dX5_worth_69 : decode cX5_worth 69 = .ok (.aload_n 2, 1) := by decide +kernel
theorem dX5_worth_70 : decode cX5_worth 70 = .ok (.arraylength, 1) := by decide +kernel
theorem dX5_worth_71 : decode cX5_worth 71 = .ok (.if_icmp .ge 41, 3) := by decide +kernel
theorem dX5_worth_74 : decode cX5_worth 74 = .ok (.iload 5, 2) := by decide +kernel
theorem dX5_worth_76 : decode cX5_worth 76 = .ok (.ldc 30, 2) := by decide +kernel
theorem dX5_worth_78 : decode cX5_worth 78 = .ok (.isub, 1) := by decide +kernel
theorem dX5_worth_79 : decode cX5_worth 79 = .ok (.istore 6, 2) := by decide +kernel
theorem dX5_worth_81 : decode cX5_worth 81 = .ok (.aload_n 2, 1) := by decide +kernel
theorem dX5_worth_82 : decode cX5_worth 82 = .ok (.iload_n 3, 1) := by decide +kernel
theorem dX5_worth_83 : decode cX5_worth 83 = .ok (.iload 6, 2) := by decide +kernel
theorem dX5_worth_85 : decode cX5_worth 85 = .ok (.ifCond .lt 20, 3) := by decide +kernel
theorem dX5_worth_88 : decode cX5_worth 88 = .ok (.iload 6, 2) := by decide +kernel
theorem dX5_worth_90 : decode cX5_worth 90 = .ok (.aload_n 1, 1) := by decide +kernel
theorem dX5_worth_91 : decode cX5_worth 91 = .ok (.arraylength, 1) := by decide +kernel
theorem dX5_worth_92 : decode cX5_worth 92 = .ok (.if_icmp .ge 13, 3) := by decide +kernel
theorem dX5_worth_95 : decode cX5_worth 95 = .ok (.aload_n 1, 1) := by decide +kernel
theorem dX5_worth_96 : decode cX5_worth 96 = .ok (.iload 6, 2) := by decide +kernel
theorem dX5_worth_98 : decode cX5_worth 98 = .ok (.laload, 1) := by decide +kernel
theorem dX5_worth_99 : decode cX5_worth 99 = .ok (.invokestatic 26, 3) := by decide +kernel
theorem dX5_worth_102 : decode cX5_worth 102 = .ok (.goto 6, 3) := by decide +kernel
theorem dX5_worth_105 : decode cX5_worth 105 = .ok (.iload 5, 2) := by decide +kernel
theorem dX5_worth_107 : decode cX5_worth 107 = .ok (.i2l, 1) := by decide +kernel
theorem dX5_worth_108 : decode cX5_worth 108 = .ok (.lastore, 1) := by decide +kernel
theorem dX5_worth_109 : decode cX5_worth 109 = .ok (.iinc 3 1, 3) := by decide +kernel
theorem dX5_worth_112 : decode cX5_worth 112 = .ok (.iinc 4 1, 3) := by decide +kernel
theorem dX5_worth_115 : decode cX5_worth 115 = .ok (.goto (-110), 3) := by decide +kernel
theorem dX5_worth_118 : decode cX5_worth 118 = .ok (.iload_n 3, 1) := by decide +kernel
theorem dX5_worth_119 : decode cX5_worth 119 = .ok (.ifCond .le 17, 3) := by decide +kernel
theorem dX5_worth_122 : decode cX5_worth 122 = .ok (.iload_n 3, 1) := by decide +kernel
theorem dX5_worth_123 : decode cX5_worth 123 = .ok (.aload_n 2, 1) := by decide +kernel
theorem dX5_worth_124 : decode cX5_worth 124 = .ok (.arraylength, 1) := by decide +kernel
theorem dX5_worth_125 : decode cX5_worth 125 = .ok (.if_icmp .gt 11, 3) := by decide +kernel
theorem dX5_worth_128 : decode cX5_worth 128 = .ok (.aload_n 2, 1) := by decide +kernel
theorem dX5_worth_129 : decode cX5_worth 129 = .ok (.iload_n 3, 1) := by decide +kernel
theorem dX5_worth_130 : decode cX5_worth 130 = .ok (.iconst 1, 1) := by decide +kernel
theorem dX5_worth_131 : decode cX5_worth 131 = .ok (.isub, 1) := by decide +kernel
theorem dX5_worth_132 : decode cX5_worth 132 = .ok (.laload, 1) := by decide +kernel
theorem dX5_worth_133 : decode cX5_worth 133 = .ok (.goto 4, 3) := by decide +kernel
theorem dX5_worth_136 : decode cX5_worth 136 = .ok (.lconst 0, 1) := by decide +kernel
theorem dX5_worth_137 : decode cX5_worth 137 = .ok (.lreturn, 1) := by decide +kernel
theorem dX5_join_0 : decode cX5_join 0 = .ok (.iload_n 0, 1) := by decide +kernel
theorem dX5_join_1 : decode cX5_join 1 = .ok (.tableswitch 161 42 62 #[107, 99, 161, 103, 161, 111, 161, 161, 161, 161, 161, 161, 161, 161, 161, 161, 161, 161, 125, 137, 149], 99) := by decide +kernel
theorem dX5_join_100 : decode cX5_join 100 = .ok (.lload_n 1, 1) := by decide +kernel
theorem dX5_join_101 : decode cX5_join 101 = .ok (.lload_n 3, 1) := by decide +kernel
theorem dX5_join_102 : decode cX5_join 102 = .ok (.ladd, 1) := by decide +kernel
theorem dX5_join_103 : decode cX5_join 103 = .ok (.lreturn, 1) := by decide +kernel
theorem dX5_join_104 : decode cX5_join 104 = .ok (.lload_n 1, 1) := by decide +kernel
theorem dX5_join_105 : decode cX5_join 105 = .ok (.lload_n 3, 1) := by decide +kernel
theorem dX5_join_106 : decode cX5_join 106 = .ok (.lsub, 1) := by decide +kernel
theorem dX5_join_107 : decode cX5_join 107 = .ok (.lreturn, 1) := by decide +kernel
theorem dX5_join_108 : decode cX5_join 108 = .ok (.lload_n 1, 1) := by decide +kernel
theorem dX5_join_109 : decode cX5_join 109 = .ok (.lload_n 3, 1) := by decide +kernel
theorem dX5_join_110 : decode cX5_join 110 = .ok (.lmul, 1) := by decide +kernel
theorem dX5_join_111 : decode cX5_join 111 = .ok (.lreturn, 1) := by decide +kernel
theorem dX5_join_112 : decode cX5_join 112 = .ok (.lload_n 3, 1) := by decide +kernel
theorem dX5_join_113 : decode cX5_join 113 = .ok (.lconst 0, 1) := by decide +kernel
theorem dX5_join_114 : decode cX5_join 114 = .ok (.lcmp, 1) := by decide +kernel
theorem dX5_join_115 : decode cX5_join 115 = .ok (.ifCond .ne 7, 3) := by decide +kernel
theorem dX5_join_118 : decode cX5_join 118 = .ok (.lconst 0, 1) := by decide +kernel
theorem dX5_join_119 : decode cX5_join 119 = .ok (.goto 6, 3) := by decide +kernel
theorem dX5_join_122 : decode cX5_join 122 = .ok (.lload_n 1, 1) := by decide +kernel
theorem dX5_join_123 : decode cX5_join 123 = .ok (.lload_n 3, 1) := by decide +kernel
theorem dX5_join_124 : decode cX5_join 124 = .ok (.ldiv, 1) := by decide +kernel
theorem dX5_join_125 : decode cX5_join 125 = .ok (.lreturn, 1) := by decide +kernel
theorem dX5_join_126 : decode cX5_join 126 = .ok (.lload_n 1, 1) := by decide +kernel
theorem dX5_join_127 : decode cX5_join 127 = .ok (.lload_n 3, 1) := by decide +kernel
theorem dX5_join_128 : decode cX5_join 128 = .ok (.lcmp, 1) := by decide +kernel
theorem dX5_join_129 : decode cX5_join 129 = .ok (.ifCond .ge 7, 3) := by decide +kernel
theorem dX5_join_132 : decode cX5_join 132 = .ok (.lconst 1, 1) := by decide +kernel
theorem dX5_join_133 : decode cX5_join 133 = .ok (.goto 4, 3) := by decide +kernel
theorem dX5_join_136 : decode cX5_join 136 = .ok (.lconst 0, 1) := by decide +kernel
theorem dX5_join_137 : decode cX5_join 137 = .ok (.lreturn, 1) := by decide +kernel
theorem dX5_join_138 : decode cX5_join 138 = .ok (.lload_n 1, 1) := by decide +kernel
theorem dX5_join_139 : decode cX5_join 139 = .ok (.lload_n 3, 1) := by decide +kernel
theorem dX5_join_140 : decode cX5_join 140 = .ok (.lcmp, 1) := by decide +kernel
theorem dX5_join_141 : decode cX5_join 141 = .ok (.ifCond .ne 7, 3) := by decide +kernel
theorem dX5_join_144 : decode cX5_join 144 = .ok (.lconst 1, 1) := by decide +kernel
theorem dX5_join_145 : decode cX5_join 145 = .ok (.goto 4, 3) := by decide +kernel
theorem dX5_join_148 : decode cX5_join 148 = .ok (.lconst 0, 1) := by decide +kernel
theorem dX5_join_149 : decode cX5_join 149 = .ok (.lreturn, 1) := by decide +kernel
theorem dX5_join_150 : decode cX5_join 150 = .ok (.lload_n 1, 1) := by decide +kernel
theorem dX5_join_151 : decode cX5_join 151 = .ok (.lload_n 3, 1) := by decide +kernel
theorem dX5_join_152 : decode cX5_join 152 = .ok (.lcmp, 1) := by decide +kernel
theorem dX5_join_153 : decode cX5_join 153 = .ok (.ifCond .le 7, 3) := by decide +kernel
theorem dX5_join_156 : decode cX5_join 156 = .ok (.lconst 1, 1) := by decide +kernel
theorem dX5_join_157 : decode cX5_join 157 = .ok (.goto 4, 3) := by decide +kernel
theorem dX5_join_160 : decode cX5_join 160 = .ok (.lconst 0, 1) := by decide +kernel
theorem dX5_join_161 : decode cX5_join 161 = .ok (.lreturn, 1) := by decide +kernel
theorem dX5_join_162 : decode cX5_join 162 = .ok (.lconst 0, 1) := by decide +kernel
theorem dX5_join_163 : decode cX5_join 163 = .ok (.lreturn, 1) := by decide +kernel
theorem dX5_hold_0 : decode cX5_hold 0 = .ok (.lload_n 0, 1) := by decide +kernel
theorem dX5_hold_1 : decode cX5_hold 1 = .ok (.ldc2_w 31, 3) := by decide +kernel
theorem dX5_hold_4 : decode cX5_hold 4 = .ok (.lcmp, 1) := by decide +kernel
theorem dX5_hold_5 : decode cX5_hold 5 = .ok (.ifCond .le 9, 3) := by decide +kernel
theorem dX5_hold_8 : decode cX5_hold 8 = .ok (.ldc2_w 31, 3) := by decide +kernel
theorem dX5_hold_11 : decode cX5_hold 11 = .ok (.goto 18, 3) := by decide +kernel
theorem dX5_hold_14 : decode cX5_hold 14 = .ok (.lload_n 0, 1) := by decide +kernel
theorem dX5_hold_15 : decode cX5_hold 15 = .ok (.ldc2_w 33, 3) := by decide +kernel
theorem dX5_hold_18 : decode cX5_hold 18 = .ok (.lcmp, 1) := by decide +kernel
theorem dX5_hold_19 : decode cX5_hold 19 = .ok (.ifCond .ge 9, 3) := by decide +kernel
theorem dX5_hold_22 : decode cX5_hold 22 = .ok (.ldc2_w 33, 3) := by decide +kernel
theorem dX5_hold_25 : decode cX5_hold 25 = .ok (.goto 4, 3) := by decide +kernel
theorem dX5_hold_28 : decode cX5_hold 28 = .ok (.lload_n 0, 1) := by decide +kernel
theorem dX5_hold_29 : decode cX5_hold 29 = .ok (.lreturn, 1) := by decide +kernel
theorem dX6_init_0 : decode cX6_init 0 = .ok (.aload_n 0, 1) := by decide +kernel
theorem dX6_init_1 : decode cX6_init 1 = .ok (.invokespecial 3, 3) := by decide +kernel
theorem dX6_init_4 : decode cX6_init 4 = .ok (.aload_n 0, 1) := by decide +kernel
theorem dX6_init_5 : decode cX6_init 5 = .ok (.new 9, 3) := by decide +kernel
theorem dX6_init_8 : decode cX6_init 8 = .ok (.dup, 1) := by decide +kernel
theorem dX6_init_9 : decode cX6_init 9 = .ok (.invokespecial 11, 3) := by decide +kernel
theorem dX6_init_12 : decode cX6_init 12 = .ok (.putfield 12, 3) := by decide +kernel
theorem dX6_init_15 : decode cX6_init 15 = .ok (.aload_n 0, 1) := by decide +kernel
theorem dX6_init_16 : decode cX6_init 16 = .ok (.ldc 18, 2) := by decide +kernel
theorem dX6_init_18 : decode cX6_init 18 = .ok (.invokevirtual 20, 3) := by decide +kernel
theorem dX6_init_21 : decode cX6_init 21 = .ok (.newarray .long, 2) := by decide +kernel
theorem dX6_init_23 : decode cX6_init 23 = .ok (.putfield 26, 3) := by decide +kernel
theorem dX6_init_26 : decode cX6_init 26 = .ok (.aload_n 0, 1) := by decide +kernel
theorem dX6_init_27 : decode cX6_init 27 = .ok (.bipush 60, 2) := by decide +kernel
theorem dX6_init_29 : decode cX6_init 29 = .ok (.newarray .long, 2) := by decide +kernel
theorem dX6_init_31 : decode cX6_init 31 = .ok (.putfield 30, 3) := by decide +kernel
theorem dX6_init_34 : decode cX6_init 34 = .ok (.return_, 1) := by decide +kernel
theorem dX6_size_0 : decode cX6_size 0 = .ok (.aload_n 0, 1) := by decide +kernel
theorem dX6_size_1 : decode cX6_size 1 = .ok (.getfield 12, 3) := by decide +kernel
theorem dX6_size_4 : decode cX6_size 4 = .ok (.invokevirtual 33, 3) := by decide +kernel
theorem dX6_size_7 : decode cX6_size 7 = .ok (.ireturn, 1) := by decide +kernel
theorem dX6_add_0 : decode cX6_add 0 = .ok (.aload_n 0, 1) := by decide +kernel
theorem dX6_add_1 : decode cX6_add 1 = .ok (.getfield 12, 3) := by decide +kernel
theorem dX6_add_4 : decode cX6_add 4 = .ok (.aload_n 1, 1) := by decide +kernel
theorem dX6_add_5 : decode cX6_add 5 = .ok (.invokevirtual 36, 3) := by decide +kernel
theorem dX6_add_8 : decode cX6_add 8 = .ok (.pop, 1) := by decide +kernel
theorem dX6_add_9 : decode cX6_add 9 = .ok (.aload_n 0, 1) := by decide +kernel
theorem dX6_add_10 : decode cX6_add 10 = .ok (.getfield 12, 3) := by decide +kernel
theorem dX6_add_13 : decode cX6_add 13 = .ok (.invokevirtual 33, 3) := by decide +kernel
theorem dX6_add_16 : decode cX6_add 16 = .ok (.ireturn, 1) := by decide +kernel
theorem dX6_inForce_0 : decode cX6_inForce 0 = .ok (.aconst_null, 1) := by decide +kernel
theorem dX6_inForce_1 : decode cX6_inForce 1 = .ok (.astore_n 3, 1) := by decide +kernel
theorem dX6_inForce_2 : decode cX6_inForce 2 = .ok (.iconst 0, 1) := by decide +kernel
theorem dX6_inForce_3 : decode cX6_inForce 3 = .ok (.istore 4, 2) := by decide +kernel
theorem dX6_inForce_5 : decode cX6_inForce 5 = .ok (.iload 4, 2) := by decide +kernel
theorem dX6_inForce_7 : decode cX6_inForce 7 = .ok (.aload_n 0, 1) := by decide +kernel
theorem dX6_inForce_8 : decode cX6_inForce 8 = .ok (.getfield 12, 3) := by decide +kernel
theorem dX6_inForce_11 : decode cX6_inForce 11 = .ok (.invokevirtual 33, 3) := by decide +kernel
theorem dX6_inForce_14 : decode cX6_inForce 14 = .ok (.if_icmp .ge 60, 3) := by decide +kernel
theorem dX6_inForce_17 : decode cX6_inForce 17 = .ok (.aload_n 0, 1) := by decide +kernel
theorem dX6_inForce_18 : decode cX6_inForce 18 = .ok (.getfield 12, 3) := by decide +kernel
theorem dX6_inForce_21 : decode cX6_inForce 21 = .ok (.iload 4, 2) := by decide +kernel
theorem dX6_inForce_23 : decode cX6_inForce 23 = .ok (.invokevirtual 40, 3) := by decide +kernel
theorem dX6_inForce_26 : decode cX6_inForce 26 = .ok (.checkcast 44, 3) := by decide +kernel
theorem dX6_inForce_29 : decode cX6_inForce 29 = .ok (.astore 5, 2) := by decide +kernel
theorem dX6_inForce_31 : decode cX6_inForce 31 = .ok (.aload 5, 2) := by decide +kernel
theorem dX6_inForce_33 : decode cX6_inForce 33 = .ok (.getfield 46, 3) := by decide +kernel
theorem dX6_inForce_36 : decode cX6_inForce 36 = .ok (.iload_n 1, 1) := by decide +kernel
theorem dX6_inForce_37 : decode cX6_inForce 37 = .ok (.if_icmp .ne 31, 3) := by decide +kernel
theorem dX6_inForce_40 : decode cX6_inForce 40 = .ok (.aload 5, 2) := by decide +kernel
theorem dX6_inForce_42 : decode cX6_inForce 42 = .ok (.getfield 50, 3) := by decide +kernel
theorem dX6_inForce_45 : decode cX6_inForce 45 = .ok (.iload_n 2, 1) := by decide +kernel
theorem dX6_inForce_46 : decode cX6_inForce 46 = .ok (.if_icmp .gt 22, 3) := by decide +kernel
theorem dX6_inForce_49 : decode cX6_inForce 49 = .ok (.aload_n 3, 1) := by decide +kernel
theorem dX6_inForce_50 : decode cX6_inForce 50 = .ok (.ifnull 15, 3) := by decide +kernel
theorem dX6_inForce_53 : decode cX6_inForce 53 = .ok (.aload 5, 2) := by decide +kernel
theorem dX6_inForce_55 : decode cX6_inForce 55 = .ok (.getfield 50, 3) := by decide +kernel
theorem dX6_inForce_58 : decode cX6_inForce 58 = .ok (.aload_n 3, 1) := by decide +kernel
theorem dX6_inForce_59 : decode cX6_inForce 59 = .ok (.getfield 50, 3) := by decide +kernel
theorem dX6_inForce_62 : decode cX6_inForce 62 = .ok (.if_icmp .lt 6, 3) := by decide +kernel
theorem dX6_inForce_65 : decode cX6_inForce 65 = .ok (.aload 5, 2) := by decide +kernel
theorem dX6_inForce_67 : decode cX6_inForce 67 = .ok (.astore_n 3, 1) := by decide +kernel
theorem dX6_inForce_68 : decode cX6_inForce 68 = .ok (.iinc 4 1, 3) := by decide +kernel
theorem dX6_inForce_71 : decode cX6_inForce 71 = .ok (.goto (-66), 3) := by decide +kernel
theorem dX6_inForce_74 : decode cX6_inForce 74 = .ok (.aload_n 3, 1) := by decide +kernel
theorem dX6_inForce_75 : decode cX6_inForce 75 = .ok (.areturn, 1) := by decide +kernel
theorem dX6_freshLetters_0 : decode cX6_freshLetters 0 = .ok (.aload_n 0, 1) := by decide +kernel
theorem dX6_freshLetters_1 : decode cX6_freshLetters 1 = .ok (.getfield 26, 3) := by decide +kernel
theorem dX6_freshLetters_4 : decode cX6_freshLetters 4 = .ok (.lconst 0, 1) := by decide +kernel
theorem dX6_freshLetters_5 : decode cX6_freshLetters 5 = .ok (.invokestatic 53, 3) := by decide +kernel
theorem dX6_freshLetters_8 : decode cX6_freshLetters 8 = .ok (.aload_n 0, 1) := by decide +kernel
theorem dX6_freshLetters_9 : decode cX6_freshLetters 9 = .ok (.getfield 26, 3) := by decide +kernel
theorem dX6_freshLetters_12 : decode cX6_freshLetters 12 = .ok (.areturn, 1) := by decide +kernel
theorem dX7_init_0 : decode cX7_init 0 = .ok (.aload_n 0, 1) := by decide +kernel
theorem dX7_init_1 : decode cX7_init 1 = .ok (.invokespecial 3, 3) := by decide +kernel
theorem dX7_init_4 : decode cX7_init 4 = .ok (.aload_n 0, 1) := by decide +kernel
theorem dX7_init_5 : decode cX7_init 5 = .ok (.bipush 9, 2) := by decide +kernel
theorem dX7_init_7 : decode cX7_init 7 = .ok (.newarray .int, 2) := by decide +kernel
theorem dX7_init_9 : decode cX7_init 9 = .ok (.putfield 9, 3) := by decide +kernel
theorem dX7_init_12 : decode cX7_init 12 = .ok (.return_, 1) := by decide +kernel
theorem dX7_add_0 : decode cX7_add 0 = .ok (.aload_n 0, 1) := by decide +kernel
theorem dX7_add_1 : decode cX7_add 1 = .ok (.getfield 15, 3) := by decide +kernel
theorem dX7_add_4 : decode cX7_add 4 = .ok (.ifCond .lt 35, 3) := by decide +kernel
theorem dX7_add_7 : decode cX7_add 7 = .ok (.aload_n 0, 1) := by decide +kernel
theorem dX7_add_8 : decode cX7_add 8 = .ok (.getfield 15, 3) := by decide +kernel
theorem dX7_add_11 : decode cX7_add 11 = .ok (.aload_n 0, 1) := by decide +kernel
theorem dX7_add_12 : decode cX7_add 12 = .ok (.getfield 9, 3) := by decide +kernel
theorem dX7_add_15 : decode cX7_add 15 = .ok (.arraylength, 1) := by decide +kernel
theorem dX7_add_16 : decode cX7_add 16 = .ok (.if_icmp .ge 23, 3) := by decide +kernel
theorem dX7_add_19 : decode cX7_add 19 = .ok (.aload_n 0, 1) := by decide +kernel
theorem dX7_add_20 : decode cX7_add 20 = .ok (.getfield 9, 3) := by decide +kernel
theorem dX7_add_23 : decode cX7_add 23 = .ok (.aload_n 0, 1) := by decide +kernel
theorem dX7_add_24 : decode cX7_add 24 = .ok (.getfield 15, 3) := by decide +kernel
theorem dX7_add_27 : decode cX7_add 27 = .ok (.iload_n 1, 1) := by decide +kernel
theorem dX7_add_28 : decode cX7_add 28 = .ok (.iastore, 1) := by decide +kernel
theorem dX7_add_29 : decode cX7_add 29 = .ok (.aload_n 0, 1) := by decide +kernel
theorem dX7_add_30 : decode cX7_add 30 = .ok (.dup, 1) := by decide +kernel
theorem dX7_add_31 : decode cX7_add 31 = .ok (.getfield 15, 3) := by decide +kernel
theorem dX7_add_34 : decode cX7_add 34 = .ok (.iconst 1, 1) := by decide +kernel
theorem dX7_add_35 : decode cX7_add 35 = .ok (.iadd, 1) := by decide +kernel
theorem dX7_add_36 : decode cX7_add 36 = .ok (.putfield 15, 3) := by decide +kernel
theorem dX7_add_39 : decode cX7_add 39 = .ok (.aload_n 0, 1) := by decide +kernel
theorem dX7_add_40 : decode cX7_add 40 = .ok (.getfield 15, 3) := by decide +kernel
theorem dX7_add_43 : decode cX7_add 43 = .ok (.ireturn, 1) := by decide +kernel
theorem dX7_cameOn_0 : decode cX7_cameOn 0 = .ok (.iload_n 1, 1) := by decide +kernel
theorem dX7_cameOn_1 : decode cX7_cameOn 1 = .ok (.ifCond .lt 29, 3) := by decide +kernel
theorem dX7_cameOn_4 : decode cX7_cameOn 4 = .ok (.iload_n 1, 1) := by decide +kernel
theorem dX7_cameOn_5 : decode cX7_cameOn 5 = .ok (.aload_n 0, 1) := by decide +kernel
theorem dX7_cameOn_6 : decode cX7_cameOn 6 = .ok (.getfield 15, 3) := by decide +kernel
theorem dX7_cameOn_9 : decode cX7_cameOn 9 = .ok (.if_icmp .ge 21, 3) := by decide +kernel
theorem dX7_cameOn_12 : decode cX7_cameOn 12 = .ok (.iload_n 1, 1) := by decide +kernel
theorem dX7_cameOn_13 : decode cX7_cameOn 13 = .ok (.aload_n 0, 1) := by decide +kernel
theorem dX7_cameOn_14 : decode cX7_cameOn 14 = .ok (.getfield 9, 3) := by decide +kernel
theorem dX7_cameOn_17 : decode cX7_cameOn 17 = .ok (.arraylength, 1) := by decide +kernel
theorem dX7_cameOn_18 : decode cX7_cameOn 18 = .ok (.if_icmp .ge 12, 3) := by decide +kernel
theorem dX7_cameOn_21 : decode cX7_cameOn 21 = .ok (.aload_n 0, 1) := by decide +kernel
theorem dX7_cameOn_22 : decode cX7_cameOn 22 = .ok (.getfield 9, 3) := by decide +kernel
theorem dX7_cameOn_25 : decode cX7_cameOn 25 = .ok (.iload_n 1, 1) := by decide +kernel
theorem dX7_cameOn_26 : decode cX7_cameOn 26 = .ok (.iaload, 1) := by decide +kernel
theorem dX7_cameOn_27 : decode cX7_cameOn 27 = .ok (.goto 4, 3) := by decide +kernel
theorem dX7_cameOn_30 : decode cX7_cameOn 30 = .ok (.iconst 0, 1) := by decide +kernel
theorem dX7_cameOn_31 : decode cX7_cameOn 31 = .ok (.ireturn, 1) := by decide +kernel
theorem dX7_leastCap_0 : decode cX7_leastCap 0 = .ok (.iconst 0, 1) := by decide +kernel
theorem dX7_leastCap_1 : decode cX7_leastCap 1 = .ok (.istore_n 1, 1) := by decide +kernel
theorem dX7_leastCap_2 : decode cX7_leastCap 2 = .ok (.iload_n 1, 1) := by decide +kernel
theorem dX7_leastCap_3 : decode cX7_leastCap 3 = .ok (.bipush 127, 2) := by decide +kernel
theorem dX7_leastCap_5 : decode cX7_leastCap 5 = .ok (.if_icmp .ge 21, 3) := by decide +kernel
theorem dX7_leastCap_8 : decode cX7_leastCap 8 = .ok (.aload_n 0, 1) := by decide +kernel
theorem dX7_leastCap_9 : decode cX7_leastCap 9 = .ok (.iload_n 1, 1) := by decide +kernel
theorem dX7_leastCap_10 : decode cX7_leastCap 10 = .ok (.invokevirtual 19, 3) := by decide +kernel
theorem dX7_leastCap_13 : decode cX7_leastCap 13 = .ok (.bipush (-9), 2) := by decide +kernel
theorem dX7_leastCap_15 : decode cX7_leastCap 15 = .ok (.if_icmp .ne 5, 3) := by decide +kernel
theorem dX7_leastCap_18 : decode cX7_leastCap 18 = .ok (.iload_n 1, 1) := by decide +kernel
theorem dX7_leastCap_19 : decode cX7_leastCap 19 = .ok (.ireturn, 1) := by decide +kernel
theorem dX7_leastCap_20 : decode cX7_leastCap 20 = .ok (.iinc 1 1, 3) := by decide +kernel
theorem dX7_leastCap_23 : decode cX7_leastCap 23 = .ok (.goto (-21), 3) := by decide +kernel
theorem dX7_leastCap_26 : decode cX7_leastCap 26 = .ok (.bipush 127, 2) := by decide +kernel
theorem dX7_leastCap_28 : decode cX7_leastCap 28 = .ok (.ireturn, 1) := by decide +kernel
theorem dX7_firstDayTooLate_0 : decode cX7_firstDayTooLate 0 = .ok (.iconst 0, 1) := by decide +kernel
theorem dX7_firstDayTooLate_1 : decode cX7_firstDayTooLate 1 = .ok (.istore_n 2, 1) := by decide +kernel
theorem dX7_firstDayTooLate_2 : decode cX7_firstDayTooLate 2 = .ok (.iconst 0, 1) := by decide +kernel
theorem dX7_firstDayTooLate_3 : decode cX7_firstDayTooLate 3 = .ok (.istore_n 3, 1) := by decide +kernel
theorem dX7_firstDayTooLate_4 : decode cX7_firstDayTooLate 4 = .ok (.iload_n 3, 1) := by decide +kernel
theorem dX7_firstDayTooLate_5 : decode cX7_firstDayTooLate 5 = .ok (.aload_n 0, 1) := by decide +kernel
theorem dX7_firstDayTooLate_6 : decode cX7_firstDayTooLate 6 = .ok (.getfield 15, 3) := by decide +kernel
theorem dX7_firstDayTooLate_9 : decode cX7_firstDayTooLate 9 = .ok (.iconst 2, 1) := by decide +kernel
theorem dX7_firstDayTooLate_10 : decode cX7_firstDayTooLate 10 = .ok (.iadd, 1) := by decide +kernel
theorem dX7_firstDayTooLate_11 : decode cX7_firstDayTooLate 11 = .ok (.if_icmp .ge 44, 3) := by decide +kernel
theorem dX7_firstDayTooLate_14 : decode cX7_firstDayTooLate 14 = .ok (.iload_n 2, 1) := by decide +kernel
theorem dX7_firstDayTooLate_15 : decode cX7_firstDayTooLate 15 = .ok (.aload_n 0, 1) := by decide +kernel
theorem dX7_firstDayTooLate_16 : decode cX7_firstDayTooLate 16 = .ok (.iload_n 3, 1) := by decide +kernel
theorem dX7_firstDayTooLate_17 : decode cX7_firstDayTooLate 17 = .ok (.invokevirtual 23, 3) := by decide +kernel
theorem dX7_firstDayTooLate_20 : decode cX7_firstDayTooLate 20 = .ok (.iadd, 1) := by decide +kernel
theorem dX7_firstDayTooLate_21 : decode cX7_firstDayTooLate 21 = .ok (.istore_n 2, 1) := by decide +kernel
theorem dX7_firstDayTooLate_22 : decode cX7_firstDayTooLate 22 = .ok (.iload_n 2, 1) := by decide +kernel
theorem dX7_firstDayTooLate_23 : decode cX7_firstDayTooLate 23 = .ok (.iload_n 1, 1) := by decide +kernel
theorem dX7_firstDayTooLate_24 : decode cX7_firstDayTooLate 24 = .ok (.iload_n 2, 1) := by decide +kernel
theorem dX7_firstDayTooLate_25 : decode cX7_firstDayTooLate 25 = .ok (.invokestatic 26, 3) := by decide +kernel
theorem dX7_firstDayTooLate_28 : decode cX7_firstDayTooLate 28 = .ok (.isub, 1) := by decide +kernel
theorem dX7_firstDayTooLate_29 : decode cX7_firstDayTooLate 29 = .ok (.istore_n 2, 1) := by decide +kernel
theorem dX7_firstDayTooLate_30 : decode cX7_firstDayTooLate 30 = .ok (.iload_n 2, 1) := by decide +kernel
theorem dX7_firstDayTooLate_31 : decode cX7_firstDayTooLate 31 = .ok (.aload_n 0, 1) := by decide +kernel
theorem dX7_firstDayTooLate_32 : decode cX7_firstDayTooLate 32 = .ok (.iload_n 3, 1) := by decide +kernel
theorem dX7_firstDayTooLate_33 : decode cX7_firstDayTooLate 33 = .ok (.invokevirtual 23, 3) := by decide +kernel
theorem dX7_firstDayTooLate_36 : decode cX7_firstDayTooLate 36 = .ok (.aload_n 0, 1) := by decide +kernel
theorem dX7_firstDayTooLate_37 : decode cX7_firstDayTooLate 37 = .ok (.iload_n 3, 1) := by decide +kernel
theorem dX7_firstDayTooLate_38 : decode cX7_firstDayTooLate 38 = .ok (.iconst 1, 1) := by decide +kernel
theorem dX7_firstDayTooLate_39 : decode cX7_firstDayTooLate 39 = .ok (.isub, 1) := by decide +kernel
theorem dX7_firstDayTooLate_40 : decode cX7_firstDayTooLate 40 = .ok (.invokevirtual 23, 3) := by decide +kernel
theorem dX7_firstDayTooLate_43 : decode cX7_firstDayTooLate 43 = .ok (.iadd, 1) := by decide +kernel
theorem dX7_firstDayTooLate_44 : decode cX7_firstDayTooLate 44 = .ok (.if_icmp .le 5, 3) := by decide +kernel
theorem dX7_firstDayTooLate_47 : decode cX7_firstDayTooLate 47 = .ok (.iload_n 3, 1) := by decide +kernel
theorem dX7_firstDayTooLate_48 : decode cX7_firstDayTooLate 48 = .ok (.ireturn, 1) := by decide +kernel
theorem dX7_firstDayTooLate_49 : decode cX7_firstDayTooLate 49 = .ok (.iinc 3 1, 3) := by decide +kernel
theorem dX7_firstDayTooLate_52 : decode cX7_firstDayTooLate 52 = .ok (.goto (-48), 3) := by decide +kernel
theorem dX7_firstDayTooLate_55 : decode cX7_firstDayTooLate 55 = .ok (.bipush (-9), 2) := by decide +kernel
theorem dX7_firstDayTooLate_57 : decode cX7_firstDayTooLate 57 = .ok (.ireturn, 1) := by decide +kernel
theorem dX8_init_0 : decode cX8_init 0 = .ok (.aload_n 0, 1) := by decide +kernel
theorem dX8_init_1 : decode cX8_init 1 = .ok (.invokespecial 3, 3) := by decide +kernel
theorem dX8_init_4 : decode cX8_init 4 = .ok (.aload_n 0, 1) := by decide +kernel
theorem dX8_init_5 : decode cX8_init 5 = .ok (.bipush 60, 2) := by decide +kernel
theorem dX8_init_7 : decode cX8_init 7 = .ok (.newarray .int, 2) := by decide +kernel
theorem dX8_init_9 : decode cX8_init 9 = .ok (.putfield 9, 3) := by decide +kernel
theorem dX8_init_12 : decode cX8_init 12 = .ok (.aload_n 0, 1) := by decide +kernel
theorem dX8_init_13 : decode cX8_init 13 = .ok (.bipush 60, 2) := by decide +kernel
theorem dX8_init_15 : decode cX8_init 15 = .ok (.newarray .int, 2) := by decide +kernel
theorem dX8_init_17 : decode cX8_init 17 = .ok (.putfield 15, 3) := by decide +kernel
theorem dX8_init_20 : decode cX8_init 20 = .ok (.return_, 1) := by decide +kernel
theorem dX8_add_0 : decode cX8_add 0 = .ok (.aload_n 0, 1) := by decide +kernel
theorem dX8_add_1 : decode cX8_add 1 = .ok (.getfield 18, 3) := by decide +kernel
theorem dX8_add_4 : decode cX8_add 4 = .ok (.ifCond .lt 35, 3) := by decide +kernel
theorem dX8_add_7 : decode cX8_add 7 = .ok (.aload_n 0, 1) := by decide +kernel
theorem dX8_add_8 : decode cX8_add 8 = .ok (.getfield 18, 3) := by decide +kernel
theorem dX8_add_11 : decode cX8_add 11 = .ok (.aload_n 0, 1) := by decide +kernel
theorem dX8_add_12 : decode cX8_add 12 = .ok (.getfield 9, 3) := by decide +kernel
theorem dX8_add_15 : decode cX8_add 15 = .ok (.arraylength, 1) := by decide +kernel
theorem dX8_add_16 : decode cX8_add 16 = .ok (.if_icmp .ge 23, 3) := by decide +kernel
theorem dX8_add_19 : decode cX8_add 19 = .ok (.aload_n 0, 1) := by decide +kernel
theorem dX8_add_20 : decode cX8_add 20 = .ok (.getfield 9, 3) := by decide +kernel
theorem dX8_add_23 : decode cX8_add 23 = .ok (.aload_n 0, 1) := by decide +kernel
theorem dX8_add_24 : decode cX8_add 24 = .ok (.getfield 18, 3) := by decide +kernel
theorem dX8_add_27 : decode cX8_add 27 = .ok (.iload_n 1, 1) := by decide +kernel
theorem dX8_add_28 : decode cX8_add 28 = .ok (.iastore, 1) := by decide +kernel
theorem dX8_add_29 : decode cX8_add 29 = .ok (.aload_n 0, 1) := by decide +kernel
theorem dX8_add_30 : decode cX8_add 30 = .ok (.dup, 1) := by decide +kernel
theorem dX8_add_31 : decode cX8_add 31 = .ok (.getfield 18, 3) := by decide +kernel
theorem dX8_add_34 : decode cX8_add 34 = .ok (.iconst 1, 1) := by decide +kernel
theorem dX8_add_35 : decode cX8_add 35 = .ok (.iadd, 1) := by decide +kernel
theorem dX8_add_36 : decode cX8_add 36 = .ok (.putfield 18, 3) := by decide +kernel
theorem dX8_add_39 : decode cX8_add 39 = .ok (.return_, 1) := by decide +kernel
theorem dX8_wipe_0 : decode cX8_wipe 0 = .ok (.aload_n 0, 1) := by decide +kernel
theorem dX8_wipe_1 : decode cX8_wipe 1 = .ok (.iconst 0, 1) := by decide +kernel
theorem dX8_wipe_2 : decode cX8_wipe 2 = .ok (.putfield 18, 3) := by decide +kernel
theorem dX8_wipe_5 : decode cX8_wipe 5 = .ok (.return_, 1) := by decide +kernel
theorem dX8_codeRead_0 : decode cX8_codeRead 0 = .ok (.aload_n 0, 1) := by decide +kernel
theorem dX8_codeRead_1 : decode cX8_codeRead 1 = .ok (.getfield 15, 3) := by decide +kernel
theorem dX8_codeRead_4 : decode cX8_codeRead 4 = .ok (.iconst 0, 1) := by decide +kernel
theorem dX8_codeRead_5 : decode cX8_codeRead 5 = .ok (.aload_n 0, 1) := by decide +kernel
theorem dX8_codeRead_6 : decode cX8_codeRead 6 = .ok (.getfield 22, 3) := by decide +kernel
theorem dX8_codeRead_9 : decode cX8_codeRead 9 = .ok (.invokestatic 25, 3) := by decide +kernel
theorem dX8_codeRead_12 : decode cX8_codeRead 12 = .ok (.invokestatic 31, 3) := by decide +kernel
theorem dX8_codeRead_15 : decode cX8_codeRead 15 = .ok (.areturn, 1) := by decide +kernel
theorem dX8_read_0 : decode cX8_read 0 = .ok (.aload_n 0, 1) := by decide +kernel
theorem dX8_read_1 : decode cX8_read 1 = .ok (.iconst 0, 1) := by decide +kernel
theorem dX8_read_2 : decode cX8_read 2 = .ok (.putfield 37, 3) := by decide +kernel
theorem dX8_read_5 : decode cX8_read 5 = .ok (.aload_n 0, 1) := by decide +kernel
theorem dX8_read_6 : decode cX8_read 6 = .ok (.bipush (-9), 2) := by decide +kernel
theorem dX8_read_8 : decode cX8_read 8 = .ok (.putfield 40, 3) := by decide +kernel
theorem dX8_read_11 : decode cX8_read 11 = .ok (.aload_n 0, 1) := by decide +kernel
theorem dX8_read_12 : decode cX8_read 12 = .ok (.iconst 0, 1) := by decide +kernel
theorem dX8_read_13 : decode cX8_read 13 = .ok (.putfield 22, 3) := by decide +kernel
theorem dX8_read_16 : decode cX8_read 16 = .ok (.aload_n 0, 1) := by decide +kernel
theorem dX8_read_17 : decode cX8_read 17 = .ok (.iconst 0, 1) := by decide +kernel
theorem dX8_read_18 : decode cX8_read 18 = .ok (.invokevirtual 43, 3) := by decide +kernel
theorem dX8_read_21 : decode cX8_read 21 = .ok (.aload_n 0, 1) := by decide +kernel
theorem dX8_read_22 : decode cX8_read 22 = .ok (.getfield 37, 3) := by decide +kernel
theorem dX8_read_25 : decode cX8_read 25 = .ok (.aload_n 0, 1) := by decide +kernel
theorem dX8_read_26 : decode cX8_read 26 = .ok (.getfield 18, 3) := by decide +kernel
theorem dX8_read_29 : decode cX8_read 29 = .ok (.if_icmp .ge 7, 3) := by decide +kernel
theorem dX8_read_32 : decode cX8_read 32 = .ok (.aload_n 0, 1) := by decide +kernel
theorem dX8_read_33 : decode cX8_read 33 = .ok (.invokevirtual 47, 3) := by decide +kernel
theorem dX8_read_36 : decode cX8_read 36 = .ok (.aload_n 0, 1) := by decide +kernel
theorem dX8_read_37 : decode cX8_read 37 = .ok (.getfield 40, 3) := by decide +kernel
theorem dX8_read_40 : decode cX8_read 40 = .ok (.ireturn, 1) := by decide +kernel
theorem dX8_next_0 : decode cX8_next 0 = .ok (.aload_n 0, 1) := by decide +kernel
theorem dX8_next_1 : decode cX8_next 1 = .ok (.getfield 40, 3) := by decide +kernel
theorem dX8_next_4 : decode cX8_next 4 = .ok (.bipush (-9), 2) := by decide +kernel
theorem dX8_next_6 : decode cX8_next 6 = .ok (.if_icmp .ne 45, 3) := by decide +kernel
theorem dX8_next_9 : decode cX8_next 9 = .ok (.aload_n 0, 1) := by decide +kernel
theorem dX8_next_10 : decode cX8_next 10 = .ok (.getfield 37, 3) := by decide +kernel
theorem dX8_next_13 : decode cX8_next 13 = .ok (.ifCond .lt 38, 3) := by decide +kernel
theorem dX8_next_16 : decode cX8_next 16 = .ok (.aload_n 0, 1) := by decide +kernel
theorem dX8_next_17 : decode cX8_next 17 = .ok (.getfield 37, 3) := by decide +kernel
theorem dX8_next_20 : decode cX8_next 20 = .ok (.aload_n 0, 1) := by decide +kernel
theorem dX8_next_21 : decode cX8_next 21 = .ok (.getfield 18, 3) := by decide +kernel
theorem dX8_next_24 : decode cX8_next 24 = .ok (.if_icmp .ge 27, 3) := by decide +kernel
theorem dX8_next_27 : decode cX8_next 27 = .ok (.aload_n 0, 1) := by decide +kernel
theorem dX8_next_28 : decode cX8_next 28 = .ok (.getfield 37, 3) := by decide +kernel
theorem dX8_next_31 : decode cX8_next 31 = .ok (.aload_n 0, 1) := by decide +kernel
theorem dX8_next_32 : decode cX8_next 32 = .ok (.getfield 9, 3) := by decide +kernel
theorem dX8_next_35 : decode cX8_next 35 = .ok (.arraylength, 1) := by decide +kernel
theorem dX8_next_36 : decode cX8_next 36 = .ok (.if_icmp .ge 15, 3) := by decide +kernel
theorem dX8_next_39 : decode cX8_next 39 = .ok (.aload_n 0, 1) := by decide +kernel
theorem dX8_next_40 : decode cX8_next 40 = .ok (.getfield 9, 3) := by decide +kernel
theorem dX8_next_43 : decode cX8_next 43 = .ok (.aload_n 0, 1) := by decide +kernel
theorem dX8_next_44 : decode cX8_next 44 = .ok (.getfield 37, 3) := by decide +kernel
theorem dX8_next_47 : decode cX8_next 47 = .ok (.iaload, 1) := by decide +kernel
theorem dX8_next_48 : decode cX8_next 48 = .ok (.goto 4, 3) := by decide +kernel
theorem dX8_next_51 : decode cX8_next 51 = .ok (.iconst (-1), 1) := by decide +kernel
theorem dX8_next_52 : decode cX8_next 52 = .ok (.ireturn, 1) := by decide +kernel
theorem dX8_fail_0 : decode cX8_fail 0 = .ok (.aload_n 0, 1) := by decide +kernel
theorem dX8_fail_1 : decode cX8_fail 1 = .ok (.getfield 40, 3) := by decide +kernel
theorem dX8_fail_4 : decode cX8_fail 4 = .ok (.bipush (-9), 2) := by decide +kernel
theorem dX8_fail_6 : decode cX8_fail 6 = .ok (.if_icmp .ne 11, 3) := by decide +kernel
theorem dX8_fail_9 : decode cX8_fail 9 = .ok (.aload_n 0, 1) := by decide +kernel
theorem dX8_fail_10 : decode cX8_fail 10 = .ok (.aload_n 0, 1) := by decide +kernel
theorem dX8_fail_11 : decode cX8_fail 11 = .ok (.getfield 37, 3) := by decide +kernel
theorem dX8_fail_14 : decode cX8_fail 14 = .ok (.putfield 40, 3) := by decide +kernel
theorem dX8_fail_17 : decode cX8_fail 17 = .ok (.return_, 1) := by decide +kernel
theorem dX8_emit_0 : decode cX8_emit 0 = .ok (.aload_n 0, 1) := by decide +kernel
theorem dX8_emit_1 : decode cX8_emit 1 = .ok (.getfield 22, 3) := by decide +kernel
theorem dX8_emit_4 : decode cX8_emit 4 = .ok (.ifCond .lt 35, 3) := by decide +kernel
theorem dX8_emit_7 : decode cX8_emit 7 = .ok (.aload_n 0, 1) := by decide +kernel
theorem dX8_emit_8 : decode cX8_emit 8 = .ok (.getfield 22, 3) := by decide +kernel
theorem dX8_emit_11 : decode cX8_emit 11 = .ok (.aload_n 0, 1) := by decide +kernel
theorem dX8_emit_12 : decode cX8_emit 12 = .ok (.getfield 15, 3) := by decide +kernel
theorem dX8_emit_15 : decode cX8_emit 15 = .ok (.arraylength, 1) := by decide +kernel
theorem dX8_emit_16 : decode cX8_emit 16 = .ok (.if_icmp .ge 23, 3) := by decide +kernel
theorem dX8_emit_19 : decode cX8_emit 19 = .ok (.aload_n 0, 1) := by decide +kernel
theorem dX8_emit_20 : decode cX8_emit 20 = .ok (.getfield 15, 3) := by decide +kernel
theorem dX8_emit_23 : decode cX8_emit 23 = .ok (.aload_n 0, 1) := by decide +kernel
theorem dX8_emit_24 : decode cX8_emit 24 = .ok (.getfield 22, 3) := by decide +kernel
theorem dX8_emit_27 : decode cX8_emit 27 = .ok (.iload_n 1, 1) := by decide +kernel
theorem dX8_emit_28 : decode cX8_emit 28 = .ok (.iastore, 1) := by decide +kernel
theorem dX8_emit_29 : decode cX8_emit 29 = .ok (.aload_n 0, 1) := by decide +kernel
theorem dX8_emit_30 : decode cX8_emit 30 = .ok (.dup, 1) := by decide +kernel
theorem dX8_emit_31 : decode cX8_emit 31 = .ok (.getfield 22, 3) := by decide +kernel
theorem dX8_emit_34 : decode cX8_emit 34 = .ok (.iconst 1, 1) := by decide +kernel
theorem dX8_emit_35 : decode cX8_emit 35 = .ok (.iadd, 1) := by decide +kernel
theorem dX8_emit_36 : decode cX8_emit 36 = .ok (.putfield 22, 3) := by decide +kernel
theorem dX8_emit_39 : decode cX8_emit 39 = .ok (.return_, 1) := by decide +kernel
theorem dX8_readSum_0 : decode cX8_readSum 0 = .ok (.aload_n 0, 1) := by decide +kernel
theorem dX8_readSum_1 : decode cX8_readSum 1 = .ok (.iload_n 1, 1) := by decide +kernel
theorem dX8_readSum_2 : decode cX8_readSum 2 = .ok (.invokevirtual 50, 3) := by decide +kernel
theorem dX8_readSum_5 : decode cX8_readSum 5 = .ok (.iconst 0, 1) := by decide +kernel
theorem dX8_readSum_6 : decode cX8_readSum 6 = .ok (.istore_n 2, 1) := by decide +kernel
theorem dX8_readSum_7 : decode cX8_readSum 7 = .ok (.iload_n 2, 1) := by decide +kernel
theorem dX8_readSum_8 : decode cX8_readSum 8 = .ok (.bipush 60, 2) := by decide +kernel
theorem dX8_readSum_10 : decode cX8_readSum 10 = .ok (.if_icmp .ge 53, 3) := by decide +kernel
theorem dX8_readSum_13 : decode cX8_readSum 13 = .ok (.aload_n 0, 1) := by decide +kernel
theorem dX8_readSum_14 : decode cX8_readSum 14 = .ok (.invokevirtual 53, 3) := by decide +kernel
theorem dX8_readSum_17 : decode cX8_readSum 17 = .ok (.bipush 43, 2) := by decide +kernel
theorem dX8_readSum_19 : decode cX8_readSum 19 = .ok (.if_icmp .eq 12, 3) := by decide +kernel
theorem dX8_readSum_22 : decode cX8_readSum 22 = .ok (.aload_n 0, 1) := by decide +kernel
theorem dX8_readSum_23 : decode cX8_readSum 23 = .ok (.invokevirtual 53, 3) := by decide +kernel
theorem dX8_readSum_26 : decode cX8_readSum 26 = .ok (.bipush 45, 2) := by decide +kernel
theorem dX8_readSum_28 : decode cX8_readSum 28 = .ok (.if_icmp .ne 35, 3) := by decide +kernel
theorem dX8_readSum_31 : decode cX8_readSum 31 = .ok (.aload_n 0, 1) := by decide +kernel
theorem dX8_readSum_32 : decode cX8_readSum 32 = .ok (.invokevirtual 53, 3) := by decide +kernel
theorem dX8_readSum_35 : decode cX8_readSum 35 = .ok (.istore_n 3, 1) := by decide +kernel
theorem dX8_readSum_36 : decode cX8_readSum 36 = .ok (.aload_n 0, 1) := by decide +kernel
theorem dX8_readSum_37 : decode cX8_readSum 37 = .ok (.dup, 1) := by decide +kernel
theorem dX8_readSum_38 : decode cX8_readSum 38 = .ok (.getfield 37, 3) := by decide +kernel
theorem dX8_readSum_41 : decode cX8_readSum 41 = .ok (.iconst 1, 1) := by decide +kernel
theorem dX8_readSum_42 : decode cX8_readSum 42 = .ok (.iadd, 1) := by decide +kernel
theorem dX8_readSum_43 : decode cX8_readSum 43 = .ok (.putfield 37, 3) := by decide +kernel
theorem dX8_readSum_46 : decode cX8_readSum 46 = .ok (.aload_n 0, 1) := by decide +kernel
theorem dX8_readSum_47 : decode cX8_readSum 47 = .ok (.iload_n 1, 1) := by decide +kernel
theorem dX8_readSum_48 : decode cX8_readSum 48 = .ok (.invokevirtual 50, 3) := by decide +kernel
theorem dX8_readSum_51 : decode cX8_readSum 51 = .ok (.aload_n 0, 1) := by decide +kernel
theorem dX8_readSum_52 : decode cX8_readSum 52 = .ok (.iload_n 3, 1) := by decide +kernel
theorem dX8_readSum_53 : decode cX8_readSum 53 = .ok (.ineg, 1) := by decide +kernel
theorem dX8_readSum_54 : decode cX8_readSum 54 = .ok (.invokevirtual 57, 3) := by decide +kernel
theorem dX8_readSum_57 : decode cX8_readSum 57 = .ok (.iinc 2 1, 3) := by decide +kernel
theorem dX8_readSum_60 : decode cX8_readSum 60 = .ok (.goto (-53), 3) := by decide +kernel
theorem dX8_readSum_63 : decode cX8_readSum 63 = .ok (.return_, 1) := by decide +kernel
theorem dX8_readTerm_0 : decode cX8_readTerm 0 = .ok (.aload_n 0, 1) := by decide +kernel
theorem dX8_readTerm_1 : decode cX8_readTerm 1 = .ok (.iload_n 1, 1) := by decide +kernel
theorem dX8_readTerm_2 : decode cX8_readTerm 2 = .ok (.invokevirtual 60, 3) := by decide +kernel
theorem dX8_readTerm_5 : decode cX8_readTerm 5 = .ok (.iconst 0, 1) := by decide +kernel
theorem dX8_readTerm_6 : decode cX8_readTerm 6 = .ok (.istore_n 2, 1) := by decide +kernel
theorem dX8_readTerm_7 : decode cX8_readTerm 7 = .ok (.iload_n 2, 1) := by decide +kernel
theorem dX8_readTerm_8 : decode cX8_readTerm 8 = .ok (.bipush 60, 2) := by decide +kernel
theorem dX8_readTerm_10 : decode cX8_readTerm 10 = .ok (.if_icmp .ge 53, 3) := by decide +kernel
theorem dX8_readTerm_13 : decode cX8_readTerm 13 = .ok (.aload_n 0, 1) := by decide +kernel
theorem dX8_readTerm_14 : decode cX8_readTerm 14 = .ok (.invokevirtual 53, 3) := by decide +kernel
theorem dX8_readTerm_17 : decode cX8_readTerm 17 = .ok (.bipush 42, 2) := by decide +kernel
theorem dX8_readTerm_19 : decode cX8_readTerm 19 = .ok (.if_icmp .eq 12, 3) := by decide +kernel
theorem dX8_readTerm_22 : decode cX8_readTerm 22 = .ok (.aload_n 0, 1) := by decide +kernel
theorem dX8_readTerm_23 : decode cX8_readTerm 23 = .ok (.invokevirtual 53, 3) := by decide +kernel
theorem dX8_readTerm_26 : decode cX8_readTerm 26 = .ok (.bipush 47, 2) := by decide +kernel
theorem dX8_readTerm_28 : decode cX8_readTerm 28 = .ok (.if_icmp .ne 35, 3) := by decide +kernel
theorem dX8_readTerm_31 : decode cX8_readTerm 31 = .ok (.aload_n 0, 1) := by decide +kernel
theorem dX8_readTerm_32 : decode cX8_readTerm 32 = .ok (.invokevirtual 53, 3) := by decide +kernel
theorem dX8_readTerm_35 : decode cX8_readTerm 35 = .ok (.istore_n 3, 1) := by decide +kernel
theorem dX8_readTerm_36 : decode cX8_readTerm 36 = .ok (.aload_n 0, 1) := by decide +kernel
theorem dX8_readTerm_37 : decode cX8_readTerm 37 = .ok (.dup, 1) := by decide +kernel
theorem dX8_readTerm_38 : decode cX8_readTerm 38 = .ok (.getfield 37, 3) := by decide +kernel
theorem dX8_readTerm_41 : decode cX8_readTerm 41 = .ok (.iconst 1, 1) := by decide +kernel
theorem dX8_readTerm_42 : decode cX8_readTerm 42 = .ok (.iadd, 1) := by decide +kernel
theorem dX8_readTerm_43 : decode cX8_readTerm 43 = .ok (.putfield 37, 3) := by decide +kernel
theorem dX8_readTerm_46 : decode cX8_readTerm 46 = .ok (.aload_n 0, 1) := by decide +kernel
theorem dX8_readTerm_47 : decode cX8_readTerm 47 = .ok (.iload_n 1, 1) := by decide +kernel
theorem dX8_readTerm_48 : decode cX8_readTerm 48 = .ok (.invokevirtual 60, 3) := by decide +kernel
theorem dX8_readTerm_51 : decode cX8_readTerm 51 = .ok (.aload_n 0, 1) := by decide +kernel
theorem dX8_readTerm_52 : decode cX8_readTerm 52 = .ok (.iload_n 3, 1) := by decide +kernel
theorem dX8_readTerm_53 : decode cX8_readTerm 53 = .ok (.ineg, 1) := by decide +kernel
theorem dX8_readTerm_54 : decode cX8_readTerm 54 = .ok (.invokevirtual 57, 3) := by decide +kernel
theorem dX8_readTerm_57 : decode cX8_readTerm 57 = .ok (.iinc 2 1, 3) := by decide +kernel
theorem dX8_readTerm_60 : decode cX8_readTerm 60 = .ok (.goto (-53), 3) := by decide +kernel
theorem dX8_readTerm_63 : decode cX8_readTerm 63 = .ok (.return_, 1) := by decide +kernel
theorem dX8_readUnit_0 : decode cX8_readUnit 0 = .ok (.aload_n 0, 1) := by decide +kernel
theorem dX8_readUnit_1 : decode cX8_readUnit 1 = .ok (.invokevirtual 53, 3) := by decide +kernel
theorem dX8_readUnit_4 : decode cX8_readUnit 4 = .ok (.istore_n 2, 1) := by decide +kernel
theorem dX8_readUnit_5 : decode cX8_readUnit 5 = .ok (.iload_n 2, 1) := by decide +kernel
theorem dX8_readUnit_6 : decode cX8_readUnit 6 = .ok (.iconst (-1), 1) := by decide +kernel
theorem dX8_readUnit_7 : decode cX8_readUnit 7 = .ok (.if_icmp .ne 7, 3) := by decide +kernel
theorem dX8_readUnit_10 : decode cX8_readUnit 10 = .ok (.iconst (-1), 1) := by decide +kernel
theorem dX8_readUnit_11 : decode cX8_readUnit 11 = .ok (.goto 10, 3) := by decide +kernel
theorem dX8_readUnit_14 : decode cX8_readUnit 14 = .ok (.ldc 63, 2) := by decide +kernel
theorem dX8_readUnit_16 : decode cX8_readUnit 16 = .ok (.iload_n 2, 1) := by decide +kernel
theorem dX8_readUnit_17 : decode cX8_readUnit 17 = .ok (.i2c, 1) := by decide +kernel
theorem dX8_readUnit_18 : decode cX8_readUnit 18 = .ok (.invokevirtual 65, 3) := by decide +kernel
theorem dX8_readUnit_21 : decode cX8_readUnit 21 = .ok (.istore_n 3, 1) := by decide +kernel
theorem dX8_readUnit_22 : decode cX8_readUnit 22 = .ok (.iload_n 2, 1) := by decide +kernel
theorem dX8_readUnit_23 : decode cX8_readUnit 23 = .ok (.bipush 48, 2) := by decide +kernel
theorem dX8_readUnit_25 : decode cX8_readUnit 25 = .ok (.if_icmp .lt 16, 3) := by decide +kernel
theorem dX8_readUnit_28 : decode cX8_readUnit 28 = .ok (.iload_n 2, 1) := by decide +kernel
theorem dX8_readUnit_29 : decode cX8_readUnit 29 = .ok (.bipush 57, 2) := by decide +kernel
theorem dX8_readUnit_31 : decode cX8_readUnit 31 = .ok (.if_icmp .gt 10, 3) := by decide +kernel
theorem dX8_readUnit_34 : decode cX8_readUnit 34 = .ok (.aload_n 0, 1) := by decide +kernel
theorem dX8_readUnit_35 : decode cX8_readUnit 35 = .ok (.invokevirtual 71, 3) := by decide +kernel
theorem dX8_readUnit_38 : decode cX8_readUnit 38 = .ok (.goto 63, 3) := by decide +kernel
theorem dX8_readUnit_41 : decode cX8_readUnit 41 = .ok (.iload_n 3, 1) := by decide +kernel
theorem dX8_readUnit_42 : decode cX8_readUnit 42 = .ok (.ifCond .lt 24, 3) := by decide +kernel
theorem dX8_readUnit_45 : decode cX8_readUnit 45 = .ok (.aload_n 0, 1) := by decide +kernel
theorem dX8_readUnit_46 : decode cX8_readUnit 46 = .ok (.ldc 76, 2) := by decide +kernel
theorem dX8_readUnit_48 : decode cX8_readUnit 48 = .ok (.iload_n 3, 1) := by decide +kernel
theorem dX8_readUnit_49 : decode cX8_readUnit 49 = .ok (.iadd, 1) := by decide +kernel
theorem dX8_readUnit_50 : decode cX8_readUnit 50 = .ok (.invokevirtual 57, 3) := by decide +kernel
theorem dX8_readUnit_53 : decode cX8_readUnit 53 = .ok (.aload_n 0, 1) := by decide +kernel
theorem dX8_readUnit_54 : decode cX8_readUnit 54 = .ok (.dup, 1) := by decide +kernel
theorem dX8_readUnit_55 : decode cX8_readUnit 55 = .ok (.getfield 37, 3) := by decide +kernel
theorem dX8_readUnit_58 : decode cX8_readUnit 58 = .ok (.iconst 1, 1) := by decide +kernel
theorem dX8_readUnit_59 : decode cX8_readUnit 59 = .ok (.iadd, 1) := by decide +kernel
theorem dX8_readUnit_60 : decode cX8_readUnit 60 = .ok (.putfield 37, 3) := by decide +kernel
theorem dX8_readUnit_63 : decode cX8_readUnit 63 = .ok (.goto 38, 3) := by decide +kernel
theorem dX8_readUnit_66 : decode cX8_readUnit 66 = .ok (.iload_n 2, 1) := by decide +kernel
theorem dX8_readUnit_67 : decode cX8_readUnit 67 = .ok (.bipush 40, 2) := by decide +kernel
theorem dX8_readUnit_69 : decode cX8_readUnit 69 = .ok (.if_icmp .ne 28, 3) := by decide +kernel
theorem dX8_readUnit_72 : decode cX8_readUnit 72 = .ok (.iload_n 1, 1) := by decide +kernel
theorem dX8_readUnit_73 : decode cX8_readUnit 73 = .ok (.iconst 5, 1) := by decide +kernel
theorem dX8_readUnit_74 : decode cX8_readUnit 74 = .ok (.if_icmp .ge 23, 3) := by decide +kernel
theorem dX8_readUnit_77 : decode cX8_readUnit 77 = .ok (.aload_n 0, 1) := by decide +kernel
theorem dX8_readUnit_78 : decode cX8_readUnit 78 = .ok (.dup, 1) := by decide +kernel
theorem dX8_readUnit_79 : decode cX8_readUnit 79 = .ok (.getfield 37, 3) := by decide +kernel
theorem dX8_readUnit_82 : decode cX8_readUnit 82 = .ok (.iconst 1, 1) := by decide +kernel
theorem dX8_readUnit_83 : decode cX8_readUnit 83 = .ok (.iadd, 1) := by decide +kernel
theorem dX8_readUnit_84 : decode cX8_readUnit 84 = .ok (.putfield 37, 3) := by decide +kernel
theorem dX8_readUnit_87 : decode cX8_readUnit 87 = .ok (.aload_n 0, 1) := by decide +kernel
theorem dX8_readUnit_88 : decode cX8_readUnit 88 = .ok (.iload_n 1, 1) := by decide +kernel
theorem dX8_readUnit_89 : decode cX8_readUnit 89 = .ok (.iconst 1, 1) := by decide +kernel
theorem dX8_readUnit_90 : decode cX8_readUnit 90 = .ok (.iadd, 1) := by decide +kernel
theorem dX8_readUnit_91 : decode cX8_readUnit 91 = .ok (.invokevirtual 77, 3) := by decide +kernel
theorem dX8_readUnit_94 : decode cX8_readUnit 94 = .ok (.goto 7, 3) := by decide +kernel
theorem dX8_readUnit_97 : decode cX8_readUnit 97 = .ok (.aload_n 0, 1) := by decide +kernel
theorem dX8_readUnit_98 : decode cX8_readUnit 98 = .ok (.invokevirtual 47, 3) := by decide +kernel
theorem dX8_readUnit_101 : decode cX8_readUnit 101 = .ok (.return_, 1) := by decide +kernel
theorem dX8_readNumber_0 : decode cX8_readNumber 0 = .ok (.iconst 0, 1) := by decide +kernel
theorem dX8_readNumber_1 : decode cX8_readNumber 1 = .ok (.istore_n 1, 1) := by decide +kernel
theorem dX8_readNumber_2 : decode cX8_readNumber 2 = .ok (.iconst 0, 1) := by decide +kernel
theorem dX8_readNumber_3 : decode cX8_readNumber 3 = .ok (.istore_n 2, 1) := by decide +kernel
theorem dX8_readNumber_4 : decode cX8_readNumber 4 = .ok (.iload_n 2, 1) := by decide +kernel
theorem dX8_readNumber_5 : decode cX8_readNumber 5 = .ok (.iconst 5, 1) := by decide +kernel
theorem dX8_readNumber_6 : decode cX8_readNumber 6 = .ok (.if_icmp .ge 50, 3) := by decide +kernel
theorem dX8_readNumber_9 : decode cX8_readNumber 9 = .ok (.aload_n 0, 1) := by decide +kernel
theorem dX8_readNumber_10 : decode cX8_readNumber 10 = .ok (.invokevirtual 53, 3) := by decide +kernel
theorem dX8_readNumber_13 : decode cX8_readNumber 13 = .ok (.bipush 48, 2) := by decide +kernel
theorem dX8_readNumber_15 : decode cX8_readNumber 15 = .ok (.if_icmp .lt 41, 3) := by decide +kernel
theorem dX8_readNumber_18 : decode cX8_readNumber 18 = .ok (.aload_n 0, 1) := by decide +kernel
theorem dX8_readNumber_19 : decode cX8_readNumber 19 = .ok (.invokevirtual 53, 3) := by decide +kernel
theorem dX8_readNumber_22 : decode cX8_readNumber 22 = .ok (.bipush 57, 2) := by decide +kernel
theorem dX8_readNumber_24 : decode cX8_readNumber 24 = .ok (.if_icmp .gt 32, 3) := by decide +kernel
theorem dX8_readNumber_27 : decode cX8_readNumber 27 = .ok (.iload_n 1, 1) := by decide +kernel
theorem dX8_readNumber_28 : decode cX8_readNumber 28 = .ok (.bipush 10, 2) := by decide +kernel
theorem dX8_readNumber_30 : decode cX8_readNumber 30 = .ok (.imul, 1) := by decide +kernel
theorem dX8_readNumber_31 : decode cX8_readNumber 31 = .ok (.aload_n 0, 1) := by decide +kernel
theorem dX8_readNumber_32 : decode cX8_readNumber 32 = .ok (.invokevirtual 53, 3) := by decide +kernel
theorem dX8_readNumber_35 : decode cX8_readNumber 35 = .ok (.bipush 48, 2) := by decide +kernel
theorem dX8_readNumber_37 : decode cX8_readNumber 37 = .ok (.isub, 1) := by decide +kernel
theorem dX8_readNumber_38 : decode cX8_readNumber 38 = .ok (.iadd, 1) := by decide +kernel
theorem dX8_readNumber_39 : decode cX8_readNumber 39 = .ok (.istore_n 1, 1) := by decide +kernel
theorem dX8_readNumber_40 : decode cX8_readNumber 40 = .ok (.aload_n 0, 1) := by decide +kernel
theorem dX8_readNumber_41 : decode cX8_readNumber 41 = .ok (.dup, 1) := by decide +kernel
theorem dX8_readNumber_42 : decode cX8_readNumber 42 = .ok (.getfield 37, 3) := by decide +kernel
theorem dX8_readNumber_45 : decode cX8_readNumber 45 = .ok (.iconst 1, 1) := by decide +kernel
theorem dX8_readNumber_46 : decode cX8_readNumber 46 = .ok (.iadd, 1) := by decide +kernel
theorem dX8_readNumber_47 : decode cX8_readNumber 47 = .ok (.putfield 37, 3) := by decide +kernel
theorem dX8_readNumber_50 : decode cX8_readNumber 50 = .ok (.iinc 2 1, 3) := by decide +kernel
theorem dX8_readNumber_53 : decode cX8_readNumber 53 = .ok (.goto (-49), 3) := by decide +kernel
theorem dX8_readNumber_56 : decode cX8_readNumber 56 = .ok (.aload_n 0, 1) := by decide +kernel
theorem dX8_readNumber_57 : decode cX8_readNumber 57 = .ok (.iload_n 1, 1) := by decide +kernel
theorem dX8_readNumber_58 : decode cX8_readNumber 58 = .ok (.invokevirtual 57, 3) := by decide +kernel
theorem dX8_readNumber_61 : decode cX8_readNumber 61 = .ok (.return_, 1) := by decide +kernel
theorem dX8_readBracket_0 : decode cX8_readBracket 0 = .ok (.aload_n 0, 1) := by decide +kernel
theorem dX8_readBracket_1 : decode cX8_readBracket 1 = .ok (.iload_n 1, 1) := by decide +kernel
theorem dX8_readBracket_2 : decode cX8_readBracket 2 = .ok (.invokevirtual 43, 3) := by decide +kernel
theorem dX8_readBracket_5 : decode cX8_readBracket 5 = .ok (.aload_n 0, 1) := by decide +kernel
theorem dX8_readBracket_6 : decode cX8_readBracket 6 = .ok (.invokevirtual 53, 3) := by decide +kernel
theorem dX8_readBracket_9 : decode cX8_readBracket 9 = .ok (.istore_n 2, 1) := by decide +kernel
theorem dX8_readBracket_10 : decode cX8_readBracket 10 = .ok (.iload_n 2, 1) := by decide +kernel
theorem dX8_readBracket_11 : decode cX8_readBracket 11 = .ok (.bipush 60, 2) := by decide +kernel
theorem dX8_readBracket_13 : decode cX8_readBracket 13 = .ok (.if_icmp .eq 15, 3) := by decide +kernel
theorem dX8_readBracket_16 : decode cX8_readBracket 16 = .ok (.iload_n 2, 1) := by decide +kernel
theorem dX8_readBracket_17 : decode cX8_readBracket 17 = .ok (.bipush 61, 2) := by decide +kernel
theorem dX8_readBracket_19 : decode cX8_readBracket 19 = .ok (.if_icmp .eq 9, 3) := by decide +kernel
theorem dX8_readBracket_22 : decode cX8_readBracket 22 = .ok (.iload_n 2, 1) := by decide +kernel
theorem dX8_readBracket_23 : decode cX8_readBracket 23 = .ok (.bipush 62, 2) := by decide +kernel
theorem dX8_readBracket_25 : decode cX8_readBracket 25 = .ok (.if_icmp .ne 24, 3) := by decide +kernel
theorem dX8_readBracket_28 : decode cX8_readBracket 28 = .ok (.aload_n 0, 1) := by decide +kernel
theorem dX8_readBracket_29 : decode cX8_readBracket 29 = .ok (.dup, 1) := by decide +kernel
theorem dX8_readBracket_30 : decode cX8_readBracket 30 = .ok (.getfield 37, 3) := by decide +kernel
theorem dX8_readBracket_33 : decode cX8_readBracket 33 = .ok (.iconst 1, 1) := by decide +kernel
theorem dX8_readBracket_34 : decode cX8_readBracket 34 = .ok (.iadd, 1) := by decide +kernel
theorem dX8_readBracket_35 : decode cX8_readBracket 35 = .ok (.putfield 37, 3) := by decide +kernel
theorem dX8_readBracket_38 : decode cX8_readBracket 38 = .ok (.aload_n 0, 1) := by decide +kernel
theorem dX8_readBracket_39 : decode cX8_readBracket 39 = .ok (.iload_n 1, 1) := by decide +kernel
theorem dX8_readBracket_40 : decode cX8_readBracket 40 = .ok (.invokevirtual 43, 3) := by decide +kernel
theorem dX8_readBracket_43 : decode cX8_readBracket 43 = .ok (.aload_n 0, 1) := by decide +kernel
theorem dX8_readBracket_44 : decode cX8_readBracket 44 = .ok (.iload_n 2, 1) := by decide +kernel
theorem dX8_readBracket_45 : decode cX8_readBracket 45 = .ok (.ineg, 1) := by decide +kernel
theorem dX8_readBracket_46 : decode cX8_readBracket 46 = .ok (.invokevirtual 57, 3) := by decide +kernel
theorem dX8_readBracket_49 : decode cX8_readBracket 49 = .ok (.aload_n 0, 1) := by decide +kernel
theorem dX8_readBracket_50 : decode cX8_readBracket 50 = .ok (.invokevirtual 53, 3) := by decide +kernel
theorem dX8_readBracket_53 : decode cX8_readBracket 53 = .ok (.bipush 41, 2) := by decide +kernel
theorem dX8_readBracket_55 : decode cX8_readBracket 55 = .ok (.if_icmp .ne 16, 3) := by decide +kernel
theorem dX8_readBracket_58 : decode cX8_readBracket 58 = .ok (.aload_n 0, 1) := by decide +kernel
theorem dX8_readBracket_59 : decode cX8_readBracket 59 = .ok (.dup, 1) := by decide +kernel
theorem dX8_readBracket_60 : decode cX8_readBracket 60 = .ok (.getfield 37, 3) := by decide +kernel
theorem dX8_readBracket_63 : decode cX8_readBracket 63 = .ok (.iconst 1, 1) := by decide +kernel
theorem dX8_readBracket_64 : decode cX8_readBracket 64 = .ok (.iadd, 1) := by decide +kernel
theorem dX8_readBracket_65 : decode cX8_readBracket 65 = .ok (.putfield 37, 3) := by decide +kernel
theorem dX8_readBracket_68 : decode cX8_readBracket 68 = .ok (.goto 7, 3) := by decide +kernel
theorem dX8_readBracket_71 : decode cX8_readBracket 71 = .ok (.aload_n 0, 1) := by decide +kernel
theorem dX8_readBracket_72 : decode cX8_readBracket 72 = .ok (.invokevirtual 47, 3) := by decide +kernel
theorem dX8_readBracket_75 : decode cX8_readBracket 75 = .ok (.return_, 1) := by decide +kernel
theorem dJ7_fill_d0a16_0 : decode cJ7_fill_d0a16 0 = .ok (.iconst 0, 1) := by decide +kernel
theorem dJ7_fill_d0a16_1 : decode cJ7_fill_d0a16 1 = .ok (.istore_n 3, 1) := by decide +kernel
theorem dJ7_fill_d0a16_2 : decode cJ7_fill_d0a16 2 = .ok (.aload_n 0, 1) := by decide +kernel
theorem dJ7_fill_d0a16_3 : decode cJ7_fill_d0a16 3 = .ok (.arraylength, 1) := by decide +kernel
theorem dJ7_fill_d0a16_4 : decode cJ7_fill_d0a16 4 = .ok (.istore 4, 2) := by decide +kernel
theorem dJ7_fill_d0a16_6 : decode cJ7_fill_d0a16 6 = .ok (.iload_n 3, 1) := by decide +kernel
theorem dJ7_fill_d0a16_7 : decode cJ7_fill_d0a16 7 = .ok (.iload 4, 2) := by decide +kernel
theorem dJ7_fill_d0a16_9 : decode cJ7_fill_d0a16 9 = .ok (.if_icmp .ge 13, 3) := by decide +kernel
theorem dJ7_fill_d0a16_12 : decode cJ7_fill_d0a16 12 = .ok (.aload_n 0, 1) := by decide +kernel
theorem dJ7_fill_d0a16_13 : decode cJ7_fill_d0a16 13 = .ok (.iload_n 3, 1) := by decide +kernel
theorem dJ7_fill_d0a16_14 : decode cJ7_fill_d0a16 14 = .ok (.lload_n 1, 1) := by decide +kernel
theorem dJ7_fill_d0a16_15 : decode cJ7_fill_d0a16 15 = .ok (.lastore, 1) := by decide +kernel
theorem dJ7_fill_d0a16_16 : decode cJ7_fill_d0a16 16 = .ok (.iinc 3 1, 3) := by decide +kernel
theorem dJ7_fill_d0a16_19 : decode cJ7_fill_d0a16 19 = .ok (.goto (-13), 3) := by decide +kernel
theorem dJ7_fill_d0a16_22 : decode cJ7_fill_d0a16 22 = .ok (.return_, 1) := by decide +kernel
