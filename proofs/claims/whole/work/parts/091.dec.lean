theorem dX9_tooLate_20 : decode cX9_tooLate 20 = .ok (.getfield 55, 3) := by decide +kernel
theorem dX9_tooLate_23 : decode cX9_tooLate 23 = .ok (.iload_n 1, 1) := by decide +kernel
theorem dX9_tooLate_24 : decode cX9_tooLate 24 = .ok (.invokevirtual 334, 3) := by decide +kernel
theorem dX9_tooLate_27 : decode cX9_tooLate 27 = .ok (.istore_n 3, 1) := by decide +kernel
theorem dX9_tooLate_28 : decode cX9_tooLate 28 = .ok (.aload_n 0, 1) := by decide +kernel
theorem dX9_tooLate_29 : decode cX9_tooLate 29 = .ok (.getfield 55, 3) := by decide +kernel
theorem dX9_tooLate_32 : decode cX9_tooLate 32 = .ok (.iconst 0, 1) := by decide +kernel
theorem dX9_tooLate_33 : decode cX9_tooLate 33 = .ok (.putfield 328, 3) := by decide +kernel
theorem dX9_tooLate_36 : decode cX9_tooLate 36 = .ok (.iload_n 3, 1) := by decide +kernel
theorem dX9_tooLate_37 : decode cX9_tooLate 37 = .ok (.ireturn, 1) := by decide +kernel
theorem dX9_count_0 : decode cX9_count 0 = .ok (.iload_n 1, 1) := by decide +kernel
theorem dX9_count_1 : decode cX9_count 1 = .ok (.tableswitch 136 0 10 #[59, 67, 75, 80, 86, 94, 99, 107, 115, 120, 128], 59) := by decide +kernel
theorem dX9_count_60 : decode cX9_count 60 = .ok (.aload_n 0, 1) := by decide +kernel
theorem dX9_count_61 : decode cX9_count 61 = .ok (.getfield 10, 3) := by decide +kernel
theorem dX9_count_64 : decode cX9_count 64 = .ok (.getfield 71, 3) := by decide +kernel
theorem dX9_count_67 : decode cX9_count 67 = .ok (.ireturn, 1) := by decide +kernel
theorem dX9_count_68 : decode cX9_count 68 = .ok (.aload_n 0, 1) := by decide +kernel
theorem dX9_count_69 : decode cX9_count 69 = .ok (.getfield 28, 3) := by decide +kernel
theorem dX9_count_72 : decode cX9_count 72 = .ok (.invokevirtual 142, 3) := by decide +kernel
theorem dX9_count_75 : decode cX9_count 75 = .ok (.ireturn, 1) := by decide +kernel
theorem dX9_count_76 : decode cX9_count 76 = .ok (.aload_n 0, 1) := by decide +kernel
theorem dX9_count_77 : decode cX9_count 77 = .ok (.invokevirtual 337, 3) := by decide +kernel
theorem dX9_count_80 : decode cX9_count 80 = .ok (.ireturn, 1) := by decide +kernel
theorem dX9_count_81 : decode cX9_count 81 = .ok (.aload_n 0, 1) := by decide +kernel
theorem dX9_count_82 : decode cX9_count 82 = .ok (.aconst_null, 1) := by decide +kernel
theorem dX9_count_83 : decode cX9_count 83 = .ok (.invokevirtual 340, 3) := by decide +kernel
theorem dX9_count_86 : decode cX9_count 86 = .ok (.ireturn, 1) := by decide +kernel
theorem dX9_count_87 : decode cX9_count 87 = .ok (.aload_n 0, 1) := by decide +kernel
theorem dX9_count_88 : decode cX9_count 88 = .ok (.getfield 35, 3) := by decide +kernel
theorem dX9_count_91 : decode cX9_count 91 = .ok (.invokevirtual 142, 3) := by decide +kernel
theorem dX9_count_94 : decode cX9_count 94 = .ok (.ireturn, 1) := by decide +kernel
theorem dX9_count_95 : decode cX9_count 95 = .ok (.aload_n 0, 1) := by decide +kernel
theorem dX9_count_96 : decode cX9_count 96 = .ok (.invokevirtual 344, 3) := by decide +kernel
theorem dX9_count_99 : decode cX9_count 99 = .ok (.ireturn, 1) := by decide +kernel
theorem dX9_count_100 : decode cX9_count 100 = .ok (.aload_n 0, 1) := by decide +kernel
theorem dX9_count_101 : decode cX9_count 101 = .ok (.getfield 41, 3) := by decide +kernel
theorem dX9_count_104 : decode cX9_count 104 = .ok (.invokevirtual 205, 3) := by decide +kernel
theorem dX9_count_107 : decode cX9_count 107 = .ok (.ireturn, 1) := by decide +kernel
theorem dX9_count_108 : decode cX9_count 108 = .ok (.aload_n 0, 1) := by decide +kernel
theorem dX9_count_109 : decode cX9_count 109 = .ok (.getfield 48, 3) := by decide +kernel
theorem dX9_count_112 : decode cX9_count 112 = .ok (.getfield 198, 3) := by decide +kernel
theorem dX9_count_115 : decode cX9_count 115 = .ok (.ireturn, 1) := by decide +kernel
theorem dX9_count_116 : decode cX9_count 116 = .ok (.aload_n 0, 1) := by decide +kernel
theorem dX9_count_117 : decode cX9_count 117 = .ok (.getfield 63, 3) := by decide +kernel
theorem dX9_count_120 : decode cX9_count 120 = .ok (.ireturn, 1) := by decide +kernel
theorem dX9_count_121 : decode cX9_count 121 = .ok (.aload_n 0, 1) := by decide +kernel
theorem dX9_count_122 : decode cX9_count 122 = .ok (.getfield 55, 3) := by decide +kernel
theorem dX9_count_125 : decode cX9_count 125 = .ok (.getfield 328, 3) := by decide +kernel
theorem dX9_count_128 : decode cX9_count 128 = .ok (.ireturn, 1) := by decide +kernel
theorem dX9_count_129 : decode cX9_count 129 = .ok (.aload_n 0, 1) := by decide +kernel
theorem dX9_count_130 : decode cX9_count 130 = .ok (.getfield 10, 3) := by decide +kernel
theorem dX9_count_133 : decode cX9_count 133 = .ok (.getfield 347, 3) := by decide +kernel
theorem dX9_count_136 : decode cX9_count 136 = .ok (.ireturn, 1) := by decide +kernel
theorem dX9_count_137 : decode cX9_count 137 = .ok (.aload_n 0, 1) := by decide +kernel
theorem dX9_count_138 : decode cX9_count 138 = .ok (.iload_n 1, 1) := by decide +kernel
theorem dX9_count_139 : decode cX9_count 139 = .ok (.bipush 10, 2) := by decide +kernel
theorem dX9_count_141 : decode cX9_count 141 = .ok (.isub, 1) := by decide +kernel
theorem dX9_count_142 : decode cX9_count 142 = .ok (.invokevirtual 350, 3) := by decide +kernel
theorem dX9_count_145 : decode cX9_count 145 = .ok (.ireturn, 1) := by decide +kernel
theorem dX9_openAccounts_0 : decode cX9_openAccounts 0 = .ok (.iconst 0, 1) := by decide +kernel
theorem dX9_openAccounts_1 : decode cX9_openAccounts 1 = .ok (.istore_n 1, 1) := by decide +kernel
theorem dX9_openAccounts_2 : decode cX9_openAccounts 2 = .ok (.iconst 0, 1) := by decide +kernel
theorem dX9_openAccounts_3 : decode cX9_openAccounts 3 = .ok (.istore_n 2, 1) := by decide +kernel
theorem dX9_openAccounts_4 : decode cX9_openAccounts 4 = .ok (.iload_n 2, 1) := by decide +kernel
theorem dX9_openAccounts_5 : decode cX9_openAccounts 5 = .ok (.aload_n 0, 1) := by decide +kernel
theorem dX9_openAccounts_6 : decode cX9_openAccounts 6 = .ok (.getfield 28, 3) := by decide +kernel
theorem dX9_openAccounts_9 : decode cX9_openAccounts 9 = .ok (.invokevirtual 142, 3) := by decide +kernel
theorem dX9_openAccounts_12 : decode cX9_openAccounts 12 = .ok (.if_icmp .ge 29, 3) := by decide +kernel
theorem dX9_openAccounts_15 : decode cX9_openAccounts 15 = .ok (.aload_n 0, 1) := by decide +kernel
theorem dX9_openAccounts_16 : decode cX9_openAccounts 16 = .ok (.getfield 28, 3) := by decide +kernel
theorem dX9_openAccounts_19 : decode cX9_openAccounts 19 = .ok (.iload_n 2, 1) := by decide +kernel
theorem dX9_openAccounts_20 : decode cX9_openAccounts 20 = .ok (.invokevirtual 353, 3) := by decide +kernel
theorem dX9_openAccounts_23 : decode cX9_openAccounts 23 = .ok (.checkcast 151, 3) := by decide +kernel
theorem dX9_openAccounts_26 : decode cX9_openAccounts 26 = .ok (.getfield 159, 3) := by decide +kernel
theorem dX9_openAccounts_29 : decode cX9_openAccounts 29 = .ok (.ifCond .ne 6, 3) := by decide +kernel
theorem dX9_openAccounts_32 : decode cX9_openAccounts 32 = .ok (.iinc 1 1, 3) := by decide +kernel
theorem dX9_openAccounts_35 : decode cX9_openAccounts 35 = .ok (.iinc 2 1, 3) := by decide +kernel
theorem dX9_openAccounts_38 : decode cX9_openAccounts 38 = .ok (.goto (-34), 3) := by decide +kernel
theorem dX9_openAccounts_41 : decode cX9_openAccounts 41 = .ok (.iload_n 1, 1) := by decide +kernel
theorem dX9_openAccounts_42 : decode cX9_openAccounts 42 = .ok (.ireturn, 1) := by decide +kernel
theorem dX9_linesNotEnded_0 : decode cX9_linesNotEnded 0 = .ok (.iconst 0, 1) := by decide +kernel
theorem dX9_linesNotEnded_1 : decode cX9_linesNotEnded 1 = .ok (.istore_n 2, 1) := by decide +kernel
theorem dX9_linesNotEnded_2 : decode cX9_linesNotEnded 2 = .ok (.iconst 0, 1) := by decide +kernel
theorem dX9_linesNotEnded_3 : decode cX9_linesNotEnded 3 = .ok (.istore_n 3, 1) := by decide +kernel
theorem dX9_linesNotEnded_4 : decode cX9_linesNotEnded 4 = .ok (.iload_n 3, 1) := by decide +kernel
theorem dX9_linesNotEnded_5 : decode cX9_linesNotEnded 5 = .ok (.aload_n 0, 1) := by decide +kernel
theorem dX9_linesNotEnded_6 : decode cX9_linesNotEnded 6 = .ok (.getfield 32, 3) := by decide +kernel
theorem dX9_linesNotEnded_9 : decode cX9_linesNotEnded 9 = .ok (.invokevirtual 142, 3) := by decide +kernel
theorem dX9_linesNotEnded_12 : decode cX9_linesNotEnded 12 = .ok (.if_icmp .ge 46, 3) := by decide +kernel
theorem dX9_linesNotEnded_15 : decode cX9_linesNotEnded 15 = .ok (.aload_n 0, 1) := by decide +kernel
theorem dX9_linesNotEnded_16 : decode cX9_linesNotEnded 16 = .ok (.getfield 32, 3) := by decide +kernel
theorem dX9_linesNotEnded_19 : decode cX9_linesNotEnded 19 = .ok (.iload_n 3, 1) := by decide +kernel
theorem dX9_linesNotEnded_20 : decode cX9_linesNotEnded 20 = .ok (.invokevirtual 353, 3) := by decide +kernel
theorem dX9_linesNotEnded_23 : decode cX9_linesNotEnded 23 = .ok (.checkcast 224, 3) := by decide +kernel
theorem dX9_linesNotEnded_26 : decode cX9_linesNotEnded 26 = .ok (.astore 4, 2) := by decide +kernel
theorem dX9_linesNotEnded_28 : decode cX9_linesNotEnded 28 = .ok (.aload 4, 2) := by decide +kernel
theorem dX9_linesNotEnded_30 : decode cX9_linesNotEnded 30 = .ok (.getfield 236, 3) := by decide +kernel
theorem dX9_linesNotEnded_33 : decode cX9_linesNotEnded 33 = .ok (.ifCond .ne 19, 3) := by decide +kernel
theorem dX9_linesNotEnded_36 : decode cX9_linesNotEnded 36 = .ok (.aload_n 1, 1) := by decide +kernel
theorem dX9_linesNotEnded_37 : decode cX9_linesNotEnded 37 = .ok (.ifnull 12, 3) := by decide +kernel
theorem dX9_linesNotEnded_40 : decode cX9_linesNotEnded 40 = .ok (.aload 4, 2) := by decide +kernel
theorem dX9_linesNotEnded_42 : decode cX9_linesNotEnded 42 = .ok (.getfield 246, 3) := by decide +kernel
theorem dX9_linesNotEnded_45 : decode cX9_linesNotEnded 45 = .ok (.aload_n 1, 1) := by decide +kernel
theorem dX9_linesNotEnded_46 : decode cX9_linesNotEnded 46 = .ok (.if_acmp .ne 6, 3) := by decide +kernel
theorem dX9_linesNotEnded_49 : decode cX9_linesNotEnded 49 = .ok (.iinc 2 1, 3) := by decide +kernel
theorem dX9_linesNotEnded_52 : decode cX9_linesNotEnded 52 = .ok (.iinc 3 1, 3) := by decide +kernel
theorem dX9_linesNotEnded_55 : decode cX9_linesNotEnded 55 = .ok (.goto (-51), 3) := by decide +kernel
theorem dX9_linesNotEnded_58 : decode cX9_linesNotEnded 58 = .ok (.iload_n 2, 1) := by decide +kernel
theorem dX9_linesNotEnded_59 : decode cX9_linesNotEnded 59 = .ok (.ireturn, 1) := by decide +kernel
theorem dX9_movesThatGoOn_0 : decode cX9_movesThatGoOn 0 = .ok (.iconst 0, 1) := by decide +kernel
theorem dX9_movesThatGoOn_1 : decode cX9_movesThatGoOn 1 = .ok (.istore_n 1, 1) := by decide +kernel
theorem dX9_movesThatGoOn_2 : decode cX9_movesThatGoOn 2 = .ok (.iconst 0, 1) := by decide +kernel
theorem dX9_movesThatGoOn_3 : decode cX9_movesThatGoOn 3 = .ok (.istore_n 2, 1) := by decide +kernel
theorem dX9_movesThatGoOn_4 : decode cX9_movesThatGoOn 4 = .ok (.iload_n 2, 1) := by decide +kernel
theorem dX9_movesThatGoOn_5 : decode cX9_movesThatGoOn 5 = .ok (.aload_n 0, 1) := by decide +kernel
theorem dX9_movesThatGoOn_6 : decode cX9_movesThatGoOn 6 = .ok (.getfield 35, 3) := by decide +kernel
theorem dX9_movesThatGoOn_9 : decode cX9_movesThatGoOn 9 = .ok (.invokevirtual 142, 3) := by decide +kernel
theorem dX9_movesThatGoOn_12 : decode cX9_movesThatGoOn 12 = .ok (.if_icmp .ge 29, 3) := by decide +kernel
theorem dX9_movesThatGoOn_15 : decode cX9_movesThatGoOn 15 = .ok (.aload_n 0, 1) := by decide +kernel
theorem dX9_movesThatGoOn_16 : decode cX9_movesThatGoOn 16 = .ok (.getfield 35, 3) := by decide +kernel
theorem dX9_movesThatGoOn_19 : decode cX9_movesThatGoOn 19 = .ok (.iload_n 2, 1) := by decide +kernel
theorem dX9_movesThatGoOn_20 : decode cX9_movesThatGoOn 20 = .ok (.invokevirtual 353, 3) := by decide +kernel
theorem dX9_movesThatGoOn_23 : decode cX9_movesThatGoOn 23 = .ok (.checkcast 271, 3) := by decide +kernel
theorem dX9_movesThatGoOn_26 : decode cX9_movesThatGoOn 26 = .ok (.getfield 290, 3) := by decide +kernel
theorem dX9_movesThatGoOn_29 : decode cX9_movesThatGoOn 29 = .ok (.ifCond .eq 6, 3) := by decide +kernel
theorem dX9_movesThatGoOn_32 : decode cX9_movesThatGoOn 32 = .ok (.iinc 1 1, 3) := by decide +kernel
theorem dX9_movesThatGoOn_35 : decode cX9_movesThatGoOn 35 = .ok (.iinc 2 1, 3) := by decide +kernel
theorem dX9_movesThatGoOn_38 : decode cX9_movesThatGoOn 38 = .ok (.goto (-34), 3) := by decide +kernel
theorem dX9_movesThatGoOn_41 : decode cX9_movesThatGoOn 41 = .ok (.iload_n 1, 1) := by decide +kernel
theorem dX9_movesThatGoOn_42 : decode cX9_movesThatGoOn 42 = .ok (.ireturn, 1) := by decide +kernel
theorem dX9_refusalsCounted_0 : decode cX9_refusalsCounted 0 = .ok (.iload_n 1, 1) := by decide +kernel
theorem dX9_refusalsCounted_1 : decode cX9_refusalsCounted 1 = .ok (.iconst 1, 1) := by decide +kernel
theorem dX9_refusalsCounted_2 : decode cX9_refusalsCounted 2 = .ok (.if_icmp .lt 18, 3) := by decide +kernel
theorem dX9_refusalsCounted_5 : decode cX9_refusalsCounted 5 = .ok (.iload_n 1, 1) := by decide +kernel
theorem dX9_refusalsCounted_6 : decode cX9_refusalsCounted 6 = .ok (.bipush 6, 2) := by decide +kernel
theorem dX9_refusalsCounted_8 : decode cX9_refusalsCounted 8 = .ok (.if_icmp .gt 12, 3) := by decide +kernel
theorem dX9_refusalsCounted_11 : decode cX9_refusalsCounted 11 = .ok (.aload_n 0, 1) := by decide +kernel
theorem dX9_refusalsCounted_12 : decode cX9_refusalsCounted 12 = .ok (.getfield 67, 3) := by decide +kernel
theorem dX9_refusalsCounted_15 : decode cX9_refusalsCounted 15 = .ok (.iload_n 1, 1) := by decide +kernel
theorem dX9_refusalsCounted_16 : decode cX9_refusalsCounted 16 = .ok (.iaload, 1) := by decide +kernel
theorem dX9_refusalsCounted_17 : decode cX9_refusalsCounted 17 = .ok (.goto 5, 3) := by decide +kernel
theorem dX9_refusalsCounted_20 : decode cX9_refusalsCounted 20 = .ok (.bipush (-9), 2) := by decide +kernel
theorem dX9_refusalsCounted_22 : decode cX9_refusalsCounted 22 = .ok (.ireturn, 1) := by decide +kernel
theorem dX9_outside_0 : decode cX9_outside 0 = .ok (.iload_n 0, 1) := by decide +kernel
theorem dX9_outside_1 : decode cX9_outside 1 = .ok (.iload_n 1, 1) := by decide +kernel
theorem dX9_outside_2 : decode cX9_outside 2 = .ok (.if_icmp .ge 8, 3) := by decide +kernel
theorem dX9_outside_5 : decode cX9_outside 5 = .ok (.bipush (-4), 2) := by decide +kernel
theorem dX9_outside_7 : decode cX9_outside 7 = .ok (.goto 14, 3) := by decide +kernel
theorem dX9_outside_10 : decode cX9_outside 10 = .ok (.iload_n 0, 1) := by decide +kernel
theorem dX9_outside_11 : decode cX9_outside 11 = .ok (.iload_n 2, 1) := by decide +kernel
theorem dX9_outside_12 : decode cX9_outside 12 = .ok (.if_icmp .le 8, 3) := by decide +kernel
theorem dX9_outside_15 : decode cX9_outside 15 = .ok (.bipush (-6), 2) := by decide +kernel
theorem dX9_outside_17 : decode cX9_outside 17 = .ok (.goto 4, 3) := by decide +kernel
theorem dX9_outside_20 : decode cX9_outside 20 = .ok (.iconst 0, 1) := by decide +kernel
theorem dX9_outside_21 : decode cX9_outside 21 = .ok (.ireturn, 1) := by decide +kernel
theorem dX9_refuse_0 : decode cX9_refuse 0 = .ok (.iload_n 1, 1) := by decide +kernel
theorem dX9_refuse_1 : decode cX9_refuse 1 = .ok (.ineg, 1) := by decide +kernel
theorem dX9_refuse_2 : decode cX9_refuse 2 = .ok (.istore_n 2, 1) := by decide +kernel
theorem dX9_refuse_3 : decode cX9_refuse 3 = .ok (.iload_n 2, 1) := by decide +kernel
theorem dX9_refuse_4 : decode cX9_refuse 4 = .ok (.iconst 1, 1) := by decide +kernel
theorem dX9_refuse_5 : decode cX9_refuse 5 = .ok (.if_icmp .lt 19, 3) := by decide +kernel
theorem dX9_refuse_8 : decode cX9_refuse 8 = .ok (.iload_n 2, 1) := by decide +kernel
theorem dX9_refuse_9 : decode cX9_refuse 9 = .ok (.bipush 6, 2) := by decide +kernel
theorem dX9_refuse_11 : decode cX9_refuse 11 = .ok (.if_icmp .gt 13, 3) := by decide +kernel
theorem dX9_refuse_14 : decode cX9_refuse 14 = .ok (.aload_n 0, 1) := by decide +kernel
theorem dX9_refuse_15 : decode cX9_refuse 15 = .ok (.getfield 67, 3) := by decide +kernel
theorem dX9_refuse_18 : decode cX9_refuse 18 = .ok (.iload_n 2, 1) := by decide +kernel
theorem dX9_refuse_19 : decode cX9_refuse 19 = .ok (.dup2, 1) := by decide +kernel
theorem dX9_refuse_20 : decode cX9_refuse 20 = .ok (.iaload, 1) := by decide +kernel
theorem dX9_refuse_21 : decode cX9_refuse 21 = .ok (.iconst 1, 1) := by decide +kernel
theorem dX9_refuse_22 : decode cX9_refuse 22 = .ok (.iadd, 1) := by decide +kernel
theorem dX9_refuse_23 : decode cX9_refuse 23 = .ok (.iastore, 1) := by decide +kernel
theorem dX9_refuse_24 : decode cX9_refuse 24 = .ok (.iload_n 1, 1) := by decide +kernel
theorem dX9_refuse_25 : decode cX9_refuse 25 = .ok (.ireturn, 1) := by decide +kernel
theorem dX9_refuseLong_0 : decode cX9_refuseLong 0 = .ok (.ldc2_w 357, 3) := by decide +kernel
theorem dX9_refuseLong_3 : decode cX9_refuseLong 3 = .ok (.aload_n 0, 1) := by decide +kernel
theorem dX9_refuseLong_4 : decode cX9_refuseLong 4 = .ok (.iload_n 1, 1) := by decide +kernel
theorem dX9_refuseLong_5 : decode cX9_refuseLong 5 = .ok (.invokevirtual 78, 3) := by decide +kernel
theorem dX9_refuseLong_8 : decode cX9_refuseLong 8 = .ok (.i2l, 1) := by decide +kernel
theorem dX9_refuseLong_9 : decode cX9_refuseLong 9 = .ok (.lsub, 1) := by decide +kernel
theorem dX9_refuseLong_10 : decode cX9_refuseLong 10 = .ok (.lreturn, 1) := by decide +kernel
theorem dX9_bankAt_0 : decode cX9_bankAt 0 = .ok (.iload_n 1, 1) := by decide +kernel
theorem dX9_bankAt_1 : decode cX9_bankAt 1 = .ok (.ifCond .lt 21, 3) := by decide +kernel
theorem dX9_bankAt_4 : decode cX9_bankAt 4 = .ok (.iload_n 1, 1) := by decide +kernel
theorem dX9_bankAt_5 : decode cX9_bankAt 5 = .ok (.aload_n 0, 1) := by decide +kernel
theorem dX9_bankAt_6 : decode cX9_bankAt 6 = .ok (.getfield 18, 3) := by decide +kernel
theorem dX9_bankAt_9 : decode cX9_bankAt 9 = .ok (.arraylength, 1) := by decide +kernel
theorem dX9_bankAt_10 : decode cX9_bankAt 10 = .ok (.if_icmp .ge 12, 3) := by decide +kernel
theorem dX9_bankAt_13 : decode cX9_bankAt 13 = .ok (.aload_n 0, 1) := by decide +kernel
theorem dX9_bankAt_14 : decode cX9_bankAt 14 = .ok (.getfield 18, 3) := by decide +kernel
theorem dX9_bankAt_17 : decode cX9_bankAt 17 = .ok (.iload_n 1, 1) := by decide +kernel
theorem dX9_bankAt_18 : decode cX9_bankAt 18 = .ok (.aaload, 1) := by decide +kernel
theorem dX9_bankAt_19 : decode cX9_bankAt 19 = .ok (.goto 4, 3) := by decide +kernel
theorem dX9_bankAt_22 : decode cX9_bankAt 22 = .ok (.aconst_null, 1) := by decide +kernel
theorem dX9_bankAt_23 : decode cX9_bankAt 23 = .ok (.areturn, 1) := by decide +kernel
theorem dX9_accountAt_0 : decode cX9_accountAt 0 = .ok (.iload_n 1, 1) := by decide +kernel
theorem dX9_accountAt_1 : decode cX9_accountAt 1 = .ok (.ifCond .lt 28, 3) := by decide +kernel
theorem dX9_accountAt_4 : decode cX9_accountAt 4 = .ok (.iload_n 1, 1) := by decide +kernel
theorem dX9_accountAt_5 : decode cX9_accountAt 5 = .ok (.aload_n 0, 1) := by decide +kernel
theorem dX9_accountAt_6 : decode cX9_accountAt 6 = .ok (.getfield 28, 3) := by decide +kernel
theorem dX9_accountAt_9 : decode cX9_accountAt 9 = .ok (.invokevirtual 142, 3) := by decide +kernel
theorem dX9_accountAt_12 : decode cX9_accountAt 12 = .ok (.if_icmp .ge 17, 3) := by decide +kernel
theorem dX9_accountAt_15 : decode cX9_accountAt 15 = .ok (.aload_n 0, 1) := by decide +kernel
theorem dX9_accountAt_16 : decode cX9_accountAt 16 = .ok (.getfield 28, 3) := by decide +kernel
theorem dX9_accountAt_19 : decode cX9_accountAt 19 = .ok (.iload_n 1, 1) := by decide +kernel
theorem dX9_accountAt_20 : decode cX9_accountAt 20 = .ok (.invokevirtual 353, 3) := by decide +kernel
theorem dX9_accountAt_23 : decode cX9_accountAt 23 = .ok (.checkcast 151, 3) := by decide +kernel
theorem dX9_accountAt_26 : decode cX9_accountAt 26 = .ok (.goto 4, 3) := by decide +kernel
theorem dX9_accountAt_29 : decode cX9_accountAt 29 = .ok (.aconst_null, 1) := by decide +kernel
theorem dX9_accountAt_30 : decode cX9_accountAt 30 = .ok (.areturn, 1) := by decide +kernel
theorem dX9_lineAt_0 : decode cX9_lineAt 0 = .ok (.iload_n 1, 1) := by decide +kernel
theorem dX9_lineAt_1 : decode cX9_lineAt 1 = .ok (.ifCond .lt 28, 3) := by decide +kernel
theorem dX9_lineAt_4 : decode cX9_lineAt 4 = .ok (.iload_n 1, 1) := by decide +kernel
theorem dX9_lineAt_5 : decode cX9_lineAt 5 = .ok (.aload_n 0, 1) := by decide +kernel
theorem dX9_lineAt_6 : decode cX9_lineAt 6 = .ok (.getfield 32, 3) := by decide +kernel
theorem dX9_lineAt_9 : decode cX9_lineAt 9 = .ok (.invokevirtual 142, 3) := by decide +kernel
theorem dX9_lineAt_12 : decode cX9_lineAt 12 = .ok (.if_icmp .ge 17, 3) := by decide +kernel
theorem dX9_lineAt_15 : decode cX9_lineAt 15 = .ok (.aload_n 0, 1) := by decide +kernel
theorem dX9_lineAt_16 : decode cX9_lineAt 16 = .ok (.getfield 32, 3) := by decide +kernel
theorem dX9_lineAt_19 : decode cX9_lineAt 19 = .ok (.iload_n 1, 1) := by decide +kernel
theorem dX9_lineAt_20 : decode cX9_lineAt 20 = .ok (.invokevirtual 353, 3) := by decide +kernel
theorem dX9_lineAt_23 : decode cX9_lineAt 23 = .ok (.checkcast 224, 3) := by decide +kernel
theorem dX9_lineAt_26 : decode cX9_lineAt 26 = .ok (.goto 4, 3) := by decide +kernel
theorem dX9_lineAt_29 : decode cX9_lineAt 29 = .ok (.aconst_null, 1) := by decide +kernel
theorem dX9_lineAt_30 : decode cX9_lineAt 30 = .ok (.areturn, 1) := by decide +kernel
theorem dX9_moveAt_0 : decode cX9_moveAt 0 = .ok (.iload_n 1, 1) := by decide +kernel
theorem dX9_moveAt_1 : decode cX9_moveAt 1 = .ok (.ifCond .lt 28, 3) := by decide +kernel
theorem dX9_moveAt_4 : decode cX9_moveAt 4 = .ok (.iload_n 1, 1) := by decide +kernel
theorem dX9_moveAt_5 : decode cX9_moveAt 5 = .ok (.aload_n 0, 1) := by decide +kernel
theorem dX9_moveAt_6 : decode cX9_moveAt 6 = .ok (.getfield 35, 3) := by decide +kernel
theorem dX9_moveAt_9 : decode cX9_moveAt 9 = .ok (.invokevirtual 142, 3) := by decide +kernel
theorem dX9_moveAt_12 : decode cX9_moveAt 12 = .ok (.if_icmp .ge 17, 3) := by decide +kernel
theorem dX9_moveAt_15 : decode cX9_moveAt 15 = .ok (.aload_n 0, 1) := by decide +kernel
theorem dX9_moveAt_16 : decode cX9_moveAt 16 = .ok (.getfield 35, 3) := by decide +kernel
theorem dX9_moveAt_19 : decode cX9_moveAt 19 = .ok (.iload_n 1, 1) := by decide +kernel
theorem dX9_moveAt_20 : decode cX9_moveAt 20 = .ok (.invokevirtual 353, 3) := by decide +kernel
theorem dX9_moveAt_23 : decode cX9_moveAt 23 = .ok (.checkcast 271, 3) := by decide +kernel
theorem dX9_moveAt_26 : decode cX9_moveAt 26 = .ok (.goto 4, 3) := by decide +kernel
theorem dX9_moveAt_29 : decode cX9_moveAt 29 = .ok (.aconst_null, 1) := by decide +kernel
theorem dX9_moveAt_30 : decode cX9_moveAt 30 = .ok (.areturn, 1) := by decide +kernel
theorem dX9_openAccount_0 : decode cX9_openAccount 0 = .ok (.new 151, 3) := by decide +kernel
theorem dX9_openAccount_3 : decode cX9_openAccount 3 = .ok (.dup, 1) := by decide +kernel
theorem dX9_openAccount_4 : decode cX9_openAccount 4 = .ok (.aload_n 0, 1) := by decide +kernel
theorem dX9_openAccount_5 : decode cX9_openAccount 5 = .ok (.getfield 28, 3) := by decide +kernel
theorem dX9_openAccount_8 : decode cX9_openAccount 8 = .ok (.invokevirtual 142, 3) := by decide +kernel
theorem dX9_openAccount_11 : decode cX9_openAccount 11 = .ok (.aload_n 1, 1) := by decide +kernel
theorem dX9_openAccount_12 : decode cX9_openAccount 12 = .ok (.iload_n 2, 1) := by decide +kernel
theorem dX9_openAccount_13 : decode cX9_openAccount 13 = .ok (.iload_n 3, 1) := by decide +kernel
theorem dX9_openAccount_14 : decode cX9_openAccount 14 = .ok (.aload_n 0, 1) := by decide +kernel
theorem dX9_openAccount_15 : decode cX9_openAccount 15 = .ok (.getfield 10, 3) := by decide +kernel
theorem dX9_openAccount_18 : decode cX9_openAccount 18 = .ok (.getfield 71, 3) := by decide +kernel
theorem dX9_openAccount_21 : decode cX9_openAccount 21 = .ok (.invokespecial 359, 3) := by decide +kernel
theorem dX9_openAccount_24 : decode cX9_openAccount 24 = .ok (.astore 4, 2) := by decide +kernel
theorem dX9_openAccount_26 : decode cX9_openAccount 26 = .ok (.aload_n 0, 1) := by decide +kernel
theorem dX9_openAccount_27 : decode cX9_openAccount 27 = .ok (.getfield 28, 3) := by decide +kernel
theorem dX9_openAccount_30 : decode cX9_openAccount 30 = .ok (.aload 4, 2) := by decide +kernel
theorem dX9_openAccount_32 : decode cX9_openAccount 32 = .ok (.invokevirtual 229, 3) := by decide +kernel
theorem dX9_openAccount_35 : decode cX9_openAccount 35 = .ok (.pop, 1) := by decide +kernel
theorem dX9_openAccount_36 : decode cX9_openAccount 36 = .ok (.aload 4, 2) := by decide +kernel
theorem dX9_openAccount_38 : decode cX9_openAccount 38 = .ok (.areturn, 1) := by decide +kernel
theorem dX9_isInMove_0 : decode cX9_isInMove 0 = .ok (.iconst 0, 1) := by decide +kernel
theorem dX9_isInMove_1 : decode cX9_isInMove 1 = .ok (.istore_n 2, 1) := by decide +kernel
theorem dX9_isInMove_2 : decode cX9_isInMove 2 = .ok (.iload_n 2, 1) := by decide +kernel
theorem dX9_isInMove_3 : decode cX9_isInMove 3 = .ok (.aload_n 0, 1) := by decide +kernel
theorem dX9_isInMove_4 : decode cX9_isInMove 4 = .ok (.getfield 35, 3) := by decide +kernel
theorem dX9_isInMove_7 : decode cX9_isInMove 7 = .ok (.invokevirtual 142, 3) := by decide +kernel
theorem dX9_isInMove_10 : decode cX9_isInMove 10 = .ok (.if_icmp .ge 38, 3) := by decide +kernel
theorem dX9_isInMove_13 : decode cX9_isInMove 13 = .ok (.aload_n 0, 1) := by decide +kernel
theorem dX9_isInMove_14 : decode cX9_isInMove 14 = .ok (.getfield 35, 3) := by decide +kernel
theorem dX9_isInMove_17 : decode cX9_isInMove 17 = .ok (.iload_n 2, 1) := by decide +kernel
theorem dX9_isInMove_18 : decode cX9_isInMove 18 = .ok (.invokevirtual 353, 3) := by decide +kernel
theorem dX9_isInMove_21 : decode cX9_isInMove 21 = .ok (.checkcast 271, 3) := by decide +kernel
theorem dX9_isInMove_24 : decode cX9_isInMove 24 = .ok (.astore_n 3, 1) := by decide +kernel
theorem dX9_isInMove_25 : decode cX9_isInMove 25 = .ok (.aload_n 3, 1) := by decide +kernel
theorem dX9_isInMove_26 : decode cX9_isInMove 26 = .ok (.getfield 290, 3) := by decide +kernel
theorem dX9_isInMove_29 : decode cX9_isInMove 29 = .ok (.ifCond .eq 13, 3) := by decide +kernel
theorem dX9_isInMove_32 : decode cX9_isInMove 32 = .ok (.aload_n 3, 1) := by decide +kernel
theorem dX9_isInMove_33 : decode cX9_isInMove 33 = .ok (.aload_n 1, 1) := by decide +kernel
theorem dX9_isInMove_34 : decode cX9_isInMove 34 = .ok (.invokevirtual 362, 3) := by decide +kernel
theorem dX9_isInMove_37 : decode cX9_isInMove 37 = .ok (.ifCond .eq 5, 3) := by decide +kernel
theorem dX9_isInMove_40 : decode cX9_isInMove 40 = .ok (.iconst 1, 1) := by decide +kernel
theorem dX9_isInMove_41 : decode cX9_isInMove 41 = .ok (.ireturn, 1) := by decide +kernel
theorem dX9_isInMove_42 : decode cX9_isInMove 42 = .ok (.iinc 2 1, 3) := by decide +kernel
theorem dX9_isInMove_45 : decode cX9_isInMove 45 = .ok (.goto (-43), 3) := by decide +kernel
theorem dX9_isInMove_48 : decode cX9_isInMove 48 = .ok (.iconst 0, 1) := by decide +kernel
theorem dX9_isInMove_49 : decode cX9_isInMove 49 = .ok (.ireturn, 1) := by decide +kernel
theorem dX9_lastOf_0 : decode cX9_lastOf 0 = .ok (.aload_n 0, 1) := by decide +kernel
theorem dX9_lastOf_1 : decode cX9_lastOf 1 = .ok (.astore_n 1, 1) := by decide +kernel
theorem dX9_lastOf_2 : decode cX9_lastOf 2 = .ok (.iconst 0, 1) := by decide +kernel
theorem dX9_lastOf_3 : decode cX9_lastOf 3 = .ok (.istore_n 2, 1) := by decide +kernel
theorem dX9_lastOf_4 : decode cX9_lastOf 4 = .ok (.iload_n 2, 1) := by decide +kernel
theorem dX9_lastOf_5 : decode cX9_lastOf 5 = .ok (.bipush 40, 2) := by decide +kernel
theorem dX9_lastOf_7 : decode cX9_lastOf 7 = .ok (.if_icmp .ge 21, 3) := by decide +kernel
theorem dX9_lastOf_10 : decode cX9_lastOf 10 = .ok (.aload_n 1, 1) := by decide +kernel
theorem dX9_lastOf_11 : decode cX9_lastOf 11 = .ok (.getfield 181, 3) := by decide +kernel
theorem dX9_lastOf_14 : decode cX9_lastOf 14 = .ok (.ifnull 14, 3) := by decide +kernel
theorem dX9_lastOf_17 : decode cX9_lastOf 17 = .ok (.aload_n 1, 1) := by decide +kernel
theorem dX9_lastOf_18 : decode cX9_lastOf 18 = .ok (.getfield 181, 3) := by decide +kernel
theorem dX9_lastOf_21 : decode cX9_lastOf 21 = .ok (.astore_n 1, 1) := by decide +kernel
theorem dX9_lastOf_22 : decode cX9_lastOf 22 = .ok (.iinc 2 1, 3) := by decide +kernel
theorem dX9_lastOf_25 : decode cX9_lastOf 25 = .ok (.goto (-21), 3) := by decide +kernel
theorem dX9_lastOf_28 : decode cX9_lastOf 28 = .ok (.aload_n 1, 1) := by decide +kernel
theorem dX9_lastOf_29 : decode cX9_lastOf 29 = .ok (.areturn, 1) := by decide +kernel
theorem dX9_findRoutes_0 : decode cX9_findRoutes 0 = .ok (.aload_n 0, 1) := by decide +kernel
theorem dX9_findRoutes_1 : decode cX9_findRoutes 1 = .ok (.getfield 41, 3) := by decide +kernel
theorem dX9_findRoutes_4 : decode cX9_findRoutes 4 = .ok (.iconst 1, 1) := by decide +kernel
theorem dX9_findRoutes_5 : decode cX9_findRoutes 5 = .ok (.iload_n 1, 1) := by decide +kernel
theorem dX9_findRoutes_6 : decode cX9_findRoutes 6 = .ok (.invokevirtual 365, 3) := by decide +kernel
theorem dX9_findRoutes_9 : decode cX9_findRoutes 9 = .ok (.astore_n 2, 1) := by decide +kernel
theorem dX9_findRoutes_10 : decode cX9_findRoutes 10 = .ok (.aload_n 0, 1) := by decide +kernel
theorem dX9_findRoutes_11 : decode cX9_findRoutes 11 = .ok (.getfield 28, 3) := by decide +kernel
theorem dX9_findRoutes_14 : decode cX9_findRoutes 14 = .ok (.invokevirtual 142, 3) := by decide +kernel
theorem dX9_findRoutes_17 : decode cX9_findRoutes 17 = .ok (.iconst 1, 1) := by decide +kernel
theorem dX9_findRoutes_18 : decode cX9_findRoutes 18 = .ok (.isub, 1) := by decide +kernel
theorem dX9_findRoutes_19 : decode cX9_findRoutes 19 = .ok (.istore_n 3, 1) := by decide +kernel
theorem dX9_findRoutes_20 : decode cX9_findRoutes 20 = .ok (.iload_n 3, 1) := by decide +kernel
theorem dX9_findRoutes_21 : decode cX9_findRoutes 21 = .ok (.ifCond .lt 73, 3) := by decide +kernel
theorem dX9_findRoutes_24 : decode cX9_findRoutes 24 = .ok (.aload_n 0, 1) := by decide +kernel
theorem dX9_findRoutes_25 : decode cX9_findRoutes 25 = .ok (.getfield 28, 3) := by decide +kernel
theorem dX9_findRoutes_28 : decode cX9_findRoutes 28 = .ok (.iload_n 3, 1) := by decide +kernel
theorem dX9_findRoutes_29 : decode cX9_findRoutes 29 = .ok (.invokevirtual 353, 3) := by decide +kernel
theorem dX9_findRoutes_32 : decode cX9_findRoutes 32 = .ok (.checkcast 151, 3) := by decide +kernel
theorem dX9_findRoutes_35 : decode cX9_findRoutes 35 = .ok (.astore 4, 2) := by decide +kernel
theorem dX9_findRoutes_37 : decode cX9_findRoutes 37 = .ok (.aload 4, 2) := by decide +kernel
theorem dX9_findRoutes_39 : decode cX9_findRoutes 39 = .ok (.getfield 181, 3) := by decide +kernel
theorem dX9_findRoutes_42 : decode cX9_findRoutes 42 = .ok (.ifnonnull 13, 3) := by decide +kernel
theorem dX9_findRoutes_45 : decode cX9_findRoutes 45 = .ok (.aload 4, 2) := by decide +kernel
theorem dX9_findRoutes_47 : decode cX9_findRoutes 47 = .ok (.aload 4, 2) := by decide +kernel
theorem dX9_findRoutes_49 : decode cX9_findRoutes 49 = .ok (.putfield 195, 3) := by decide +kernel
theorem dX9_findRoutes_52 : decode cX9_findRoutes 52 = .ok (.goto 36, 3) := by decide +kernel
theorem dX9_findRoutes_55 : decode cX9_findRoutes 55 = .ok (.aload 4, 2) := by decide +kernel
theorem dX9_findRoutes_57 : decode cX9_findRoutes 57 = .ok (.aload_n 0, 1) := by decide +kernel
theorem dX9_findRoutes_58 : decode cX9_findRoutes 58 = .ok (.aload 4, 2) := by decide +kernel
theorem dX9_findRoutes_60 : decode cX9_findRoutes 60 = .ok (.aload 4, 2) := by decide +kernel
theorem dX9_findRoutes_62 : decode cX9_findRoutes 62 = .ok (.getfield 181, 3) := by decide +kernel
theorem dX9_findRoutes_65 : decode cX9_findRoutes 65 = .ok (.iload_n 1, 1) := by decide +kernel
theorem dX9_findRoutes_66 : decode cX9_findRoutes 66 = .ok (.aload_n 2, 1) := by decide +kernel
theorem dX9_findRoutes_67 : decode cX9_findRoutes 67 = .ok (.invokevirtual 369, 3) := by decide +kernel
theorem dX9_findRoutes_70 : decode cX9_findRoutes 70 = .ok (.ifCond .eq 14, 3) := by decide +kernel
theorem dX9_findRoutes_73 : decode cX9_findRoutes 73 = .ok (.aload 4, 2) := by decide +kernel
theorem dX9_findRoutes_75 : decode cX9_findRoutes 75 = .ok (.getfield 181, 3) := by decide +kernel
theorem dX9_findRoutes_78 : decode cX9_findRoutes 78 = .ok (.getfield 195, 3) := by decide +kernel
theorem dX9_findRoutes_81 : decode cX9_findRoutes 81 = .ok (.goto 4, 3) := by decide +kernel
theorem dX9_findRoutes_84 : decode cX9_findRoutes 84 = .ok (.aconst_null, 1) := by decide +kernel
theorem dX9_findRoutes_85 : decode cX9_findRoutes 85 = .ok (.putfield 195, 3) := by decide +kernel
theorem dX9_findRoutes_88 : decode cX9_findRoutes 88 = .ok (.iinc 3 (-1), 3) := by decide +kernel
theorem dX9_findRoutes_91 : decode cX9_findRoutes 91 = .ok (.goto (-71), 3) := by decide +kernel
theorem dX9_findRoutes_94 : decode cX9_findRoutes 94 = .ok (.return_, 1) := by decide +kernel
theorem dX9_isSentOn_0 : decode cX9_isSentOn 0 = .ok (.iload_n 3, 1) := by decide +kernel
theorem dX9_isSentOn_1 : decode cX9_isSentOn 1 = .ok (.aload_n 1, 1) := by decide +kernel
theorem dX9_isSentOn_2 : decode cX9_isSentOn 2 = .ok (.getfield 185, 3) := by decide +kernel
theorem dX9_isSentOn_5 : decode cX9_isSentOn 5 = .ok (.isub, 1) := by decide +kernel
theorem dX9_isSentOn_6 : decode cX9_isSentOn 6 = .ok (.istore 5, 2) := by decide +kernel
theorem dX9_isSentOn_8 : decode cX9_isSentOn 8 = .ok (.aload 4, 2) := by decide +kernel
theorem dX9_isSentOn_10 : decode cX9_isSentOn 10 = .ok (.ifnonnull 17, 3) := by decide +kernel
theorem dX9_isSentOn_13 : decode cX9_isSentOn 13 = .ok (.iload 5, 2) := by decide +kernel
theorem dX9_isSentOn_15 : decode cX9_isSentOn 15 = .ok (.sipush 1095, 3) := by decide +kernel
theorem dX9_isSentOn_18 : decode cX9_isSentOn 18 = .ok (.if_icmp .gt 7, 3) := by decide +kernel
theorem dX9_isSentOn_21 : decode cX9_isSentOn 21 = .ok (.iconst 1, 1) := by decide +kernel
theorem dX9_isSentOn_22 : decode cX9_isSentOn 22 = .ok (.goto 4, 3) := by decide +kernel
theorem dX9_isSentOn_25 : decode cX9_isSentOn 25 = .ok (.iconst 0, 1) := by decide +kernel
theorem dX9_isSentOn_26 : decode cX9_isSentOn 26 = .ok (.ireturn, 1) := by decide +kernel
theorem dX9_isSentOn_27 : decode cX9_isSentOn 27 = .ok (.aload_n 0, 1) := by decide +kernel
theorem dX9_isSentOn_28 : decode cX9_isSentOn 28 = .ok (.getfield 41, 3) := by decide +kernel
theorem dX9_isSentOn_31 : decode cX9_isSentOn 31 = .ok (.invokevirtual 373, 3) := by decide +kernel
theorem dX9_isSentOn_34 : decode cX9_isSentOn 34 = .ok (.astore 6, 2) := by decide +kernel
theorem dX9_isSentOn_36 : decode cX9_isSentOn 36 = .ok (.aload 6, 2) := by decide +kernel
theorem dX9_isSentOn_38 : decode cX9_isSentOn 38 = .ok (.iconst 0, 1) := by decide +kernel
theorem dX9_isSentOn_39 : decode cX9_isSentOn 39 = .ok (.aload_n 1, 1) := by decide +kernel
theorem dX9_isSentOn_40 : decode cX9_isSentOn 40 = .ok (.getfield 176, 3) := by decide +kernel
theorem dX9_isSentOn_43 : decode cX9_isSentOn 43 = .ok (.getfield 180, 3) := by decide +kernel
theorem dX9_isSentOn_46 : decode cX9_isSentOn 46 = .ok (.i2l, 1) := by decide +kernel
theorem dX9_isSentOn_47 : decode cX9_isSentOn 47 = .ok (.lastore, 1) := by decide +kernel
theorem dX9_isSentOn_48 : decode cX9_isSentOn 48 = .ok (.aload 6, 2) := by decide +kernel
theorem dX9_isSentOn_50 : decode cX9_isSentOn 50 = .ok (.iconst 1, 1) := by decide +kernel
theorem dX9_isSentOn_51 : decode cX9_isSentOn 51 = .ok (.aload_n 2, 1) := by decide +kernel
theorem dX9_isSentOn_52 : decode cX9_isSentOn 52 = .ok (.getfield 176, 3) := by decide +kernel
theorem dX9_isSentOn_55 : decode cX9_isSentOn 55 = .ok (.getfield 180, 3) := by decide +kernel
theorem dX9_isSentOn_58 : decode cX9_isSentOn 58 = .ok (.i2l, 1) := by decide +kernel
theorem dX9_isSentOn_59 : decode cX9_isSentOn 59 = .ok (.lastore, 1) := by decide +kernel
theorem dX9_isSentOn_60 : decode cX9_isSentOn 60 = .ok (.aload 6, 2) := by decide +kernel
theorem dX9_isSentOn_62 : decode cX9_isSentOn 62 = .ok (.bipush 9, 2) := by decide +kernel
theorem dX9_isSentOn_64 : decode cX9_isSentOn 64 = .ok (.iload 5, 2) := by decide +kernel
theorem dX9_isSentOn_66 : decode cX9_isSentOn 66 = .ok (.i2l, 1) := by decide +kernel
theorem dX9_isSentOn_67 : decode cX9_isSentOn 67 = .ok (.lastore, 1) := by decide +kernel
theorem dX9_isSentOn_68 : decode cX9_isSentOn 68 = .ok (.iload 5, 2) := by decide +kernel
theorem dX9_isSentOn_70 : decode cX9_isSentOn 70 = .ok (.i2l, 1) := by decide +kernel
theorem dX9_isSentOn_71 : decode cX9_isSentOn 71 = .ok (.aload 4, 2) := by decide +kernel
theorem dX9_isSentOn_73 : decode cX9_isSentOn 73 = .ok (.aload 6, 2) := by decide +kernel
theorem dX9_isSentOn_75 : decode cX9_isSentOn 75 = .ok (.aload_n 0, 1) := by decide +kernel
theorem dX9_isSentOn_76 : decode cX9_isSentOn 76 = .ok (.getfield 41, 3) := by decide +kernel
theorem dX9_isSentOn_79 : decode cX9_isSentOn 79 = .ok (.getfield 377, 3) := by decide +kernel
theorem dX9_isSentOn_82 : decode cX9_isSentOn 82 = .ok (.invokevirtual 380, 3) := by decide +kernel
theorem dX9_isSentOn_85 : decode cX9_isSentOn 85 = .ok (.lcmp, 1) := by decide +kernel
theorem dX9_isSentOn_86 : decode cX9_isSentOn 86 = .ok (.ifCond .gt 7, 3) := by decide +kernel
theorem dX9_isSentOn_89 : decode cX9_isSentOn 89 = .ok (.iconst 1, 1) := by decide +kernel
theorem dX9_isSentOn_90 : decode cX9_isSentOn 90 = .ok (.goto 4, 3) := by decide +kernel
theorem dX9_isSentOn_93 : decode cX9_isSentOn 93 = .ok (.iconst 0, 1) := by decide +kernel
theorem dX9_isSentOn_94 : decode cX9_isSentOn 94 = .ok (.ireturn, 1) := by decide +kernel
theorem dX9_greatestLikeness_0 : decode cX9_greatestLikeness 0 = .ok (.iconst 0, 1) := by decide +kernel
theorem dX9_greatestLikeness_1 : decode cX9_greatestLikeness 1 = .ok (.istore_n 3, 1) := by decide +kernel
theorem dX9_greatestLikeness_2 : decode cX9_greatestLikeness 2 = .ok (.iconst 0, 1) := by decide +kernel
theorem dX9_greatestLikeness_3 : decode cX9_greatestLikeness 3 = .ok (.istore 4, 2) := by decide +kernel
theorem dX9_greatestLikeness_5 : decode cX9_greatestLikeness 5 = .ok (.iload 4, 2) := by decide +kernel
theorem dX9_greatestLikeness_7 : decode cX9_greatestLikeness 7 = .ok (.aload_n 0, 1) := by decide +kernel
theorem dX9_greatestLikeness_8 : decode cX9_greatestLikeness 8 = .ok (.getfield 28, 3) := by decide +kernel
theorem dX9_greatestLikeness_11 : decode cX9_greatestLikeness 11 = .ok (.invokevirtual 142, 3) := by decide +kernel
theorem dX9_greatestLikeness_14 : decode cX9_greatestLikeness 14 = .ok (.if_icmp .ge 51, 3) := by decide +kernel
theorem dX9_greatestLikeness_17 : decode cX9_greatestLikeness 17 = .ok (.aload_n 0, 1) := by decide +kernel
theorem dX9_greatestLikeness_18 : decode cX9_greatestLikeness 18 = .ok (.getfield 28, 3) := by decide +kernel
theorem dX9_greatestLikeness_21 : decode cX9_greatestLikeness 21 = .ok (.iload 4, 2) := by decide +kernel
theorem dX9_greatestLikeness_23 : decode cX9_greatestLikeness 23 = .ok (.invokevirtual 353, 3) := by decide +kernel
theorem dX9_greatestLikeness_26 : decode cX9_greatestLikeness 26 = .ok (.checkcast 151, 3) := by decide +kernel
theorem dX9_greatestLikeness_29 : decode cX9_greatestLikeness 29 = .ok (.astore 5, 2) := by decide +kernel
theorem dX9_greatestLikeness_31 : decode cX9_greatestLikeness 31 = .ok (.aload 5, 2) := by decide +kernel
theorem dX9_greatestLikeness_33 : decode cX9_greatestLikeness 33 = .ok (.getfield 159, 3) := by decide +kernel
theorem dX9_greatestLikeness_36 : decode cX9_greatestLikeness 36 = .ok (.ifCond .ne 23, 3) := by decide +kernel
theorem dX9_greatestLikeness_39 : decode cX9_greatestLikeness 39 = .ok (.aload 5, 2) := by decide +kernel
theorem dX9_greatestLikeness_41 : decode cX9_greatestLikeness 41 = .ok (.getfield 176, 3) := by decide +kernel
theorem dX9_greatestLikeness_44 : decode cX9_greatestLikeness 44 = .ok (.aload_n 1, 1) := by decide +kernel
theorem dX9_greatestLikeness_45 : decode cX9_greatestLikeness 45 = .ok (.if_acmp .ne 14, 3) := by decide +kernel
theorem dX9_greatestLikeness_48 : decode cX9_greatestLikeness 48 = .ok (.iload_n 3, 1) := by decide +kernel
theorem dX9_greatestLikeness_49 : decode cX9_greatestLikeness 49 = .ok (.aload 5, 2) := by decide +kernel
theorem dX9_greatestLikeness_51 : decode cX9_greatestLikeness 51 = .ok (.iload_n 2, 1) := by decide +kernel
theorem dX9_greatestLikeness_52 : decode cX9_greatestLikeness 52 = .ok (.invokevirtual 317, 3) := by decide +kernel
theorem dX9_greatestLikeness_55 : decode cX9_greatestLikeness 55 = .ok (.invokestatic 384, 3) := by decide +kernel
theorem dX9_greatestLikeness_58 : decode cX9_greatestLikeness 58 = .ok (.istore_n 3, 1) := by decide +kernel
theorem dX9_greatestLikeness_59 : decode cX9_greatestLikeness 59 = .ok (.iinc 4 1, 3) := by decide +kernel
theorem dX9_greatestLikeness_62 : decode cX9_greatestLikeness 62 = .ok (.goto (-57), 3) := by decide +kernel
theorem dX9_greatestLikeness_65 : decode cX9_greatestLikeness 65 = .ok (.iload_n 3, 1) := by decide +kernel
theorem dX9_greatestLikeness_66 : decode cX9_greatestLikeness 66 = .ok (.ireturn, 1) := by decide +kernel
theorem dX9_countRivals_0 : decode cX9_countRivals 0 = .ok (.aload_n 0, 1) := by decide +kernel
theorem dX9_countRivals_1 : decode cX9_countRivals 1 = .ok (.aload_n 1, 1) := by decide +kernel
theorem dX9_countRivals_2 : decode cX9_countRivals 2 = .ok (.iload_n 2, 1) := by decide +kernel
theorem dX9_countRivals_3 : decode cX9_countRivals 3 = .ok (.invokevirtual 389, 3) := by decide +kernel
theorem dX9_countRivals_6 : decode cX9_countRivals 6 = .ok (.istore_n 3, 1) := by decide +kernel
theorem dX9_countRivals_7 : decode cX9_countRivals 7 = .ok (.iconst 0, 1) := by decide +kernel
theorem dX9_countRivals_8 : decode cX9_countRivals 8 = .ok (.istore 4, 2) := by decide +kernel
theorem dX9_countRivals_10 : decode cX9_countRivals 10 = .ok (.iconst 0, 1) := by decide +kernel
theorem dX9_countRivals_11 : decode cX9_countRivals 11 = .ok (.istore 5, 2) := by decide +kernel
theorem dX9_countRivals_13 : decode cX9_countRivals 13 = .ok (.iload 5, 2) := by decide +kernel
theorem dX9_countRivals_15 : decode cX9_countRivals 15 = .ok (.aload_n 0, 1) := by decide +kernel
theorem dX9_countRivals_16 : decode cX9_countRivals 16 = .ok (.getfield 28, 3) := by decide +kernel
theorem dX9_countRivals_19 : decode cX9_countRivals 19 = .ok (.invokevirtual 142, 3) := by decide +kernel
theorem dX9_countRivals_22 : decode cX9_countRivals 22 = .ok (.if_icmp .ge 33, 3) := by decide +kernel
theorem dX9_countRivals_25 : decode cX9_countRivals 25 = .ok (.aload_n 0, 1) := by decide +kernel
theorem dX9_countRivals_26 : decode cX9_countRivals 26 = .ok (.getfield 28, 3) := by decide +kernel
theorem dX9_countRivals_29 : decode cX9_countRivals 29 = .ok (.iload 5, 2) := by decide +kernel
theorem dX9_countRivals_31 : decode cX9_countRivals 31 = .ok (.invokevirtual 353, 3) := by decide +kernel
theorem dX9_countRivals_34 : decode cX9_countRivals 34 = .ok (.checkcast 151, 3) := by decide +kernel
theorem dX9_countRivals_37 : decode cX9_countRivals 37 = .ok (.aload_n 1, 1) := by decide +kernel
theorem dX9_countRivals_38 : decode cX9_countRivals 38 = .ok (.iload_n 2, 1) := by decide +kernel
theorem dX9_countRivals_39 : decode cX9_countRivals 39 = .ok (.iload_n 3, 1) := by decide +kernel
theorem dX9_countRivals_40 : decode cX9_countRivals 40 = .ok (.invokevirtual 392, 3) := by decide +kernel
theorem dX9_countRivals_43 : decode cX9_countRivals 43 = .ok (.ifCond .eq 6, 3) := by decide +kernel
theorem dX9_countRivals_46 : decode cX9_countRivals 46 = .ok (.iinc 4 1, 3) := by decide +kernel
theorem dX9_countRivals_49 : decode cX9_countRivals 49 = .ok (.iinc 5 1, 3) := by decide +kernel
theorem dX9_countRivals_52 : decode cX9_countRivals 52 = .ok (.goto (-39), 3) := by decide +kernel
theorem dX9_countRivals_55 : decode cX9_countRivals 55 = .ok (.iload 4, 2) := by decide +kernel
theorem dX9_countRivals_57 : decode cX9_countRivals 57 = .ok (.ireturn, 1) := by decide +kernel
theorem dX9_findRival_0 : decode cX9_findRival 0 = .ok (.aload_n 0, 1) := by decide +kernel
theorem dX9_findRival_1 : decode cX9_findRival 1 = .ok (.aload_n 1, 1) := by decide +kernel
theorem dX9_findRival_2 : decode cX9_findRival 2 = .ok (.iload_n 2, 1) := by decide +kernel
theorem dX9_findRival_3 : decode cX9_findRival 3 = .ok (.invokevirtual 389, 3) := by decide +kernel
theorem dX9_findRival_6 : decode cX9_findRival 6 = .ok (.istore 4, 2) := by decide +kernel
theorem dX9_findRival_8 : decode cX9_findRival 8 = .ok (.iconst 0, 1) := by decide +kernel
theorem dX9_findRival_9 : decode cX9_findRival 9 = .ok (.istore 5, 2) := by decide +kernel
theorem dX9_findRival_11 : decode cX9_findRival 11 = .ok (.iconst 0, 1) := by decide +kernel
theorem dX9_findRival_12 : decode cX9_findRival 12 = .ok (.istore 6, 2) := by decide +kernel
theorem dX9_findRival_14 : decode cX9_findRival 14 = .ok (.iload 6, 2) := by decide +kernel
theorem dX9_findRival_16 : decode cX9_findRival 16 = .ok (.aload_n 0, 1) := by decide +kernel
theorem dX9_findRival_17 : decode cX9_findRival 17 = .ok (.getfield 28, 3) := by decide +kernel
theorem dX9_findRival_20 : decode cX9_findRival 20 = .ok (.invokevirtual 142, 3) := by decide +kernel
theorem dX9_findRival_23 : decode cX9_findRival 23 = .ok (.if_icmp .ge 59, 3) := by decide +kernel
theorem dX9_findRival_26 : decode cX9_findRival 26 = .ok (.aload_n 0, 1) := by decide +kernel
theorem dX9_findRival_27 : decode cX9_findRival 27 = .ok (.getfield 28, 3) := by decide +kernel
theorem dX9_findRival_30 : decode cX9_findRival 30 = .ok (.iload 6, 2) := by decide +kernel
theorem dX9_findRival_32 : decode cX9_findRival 32 = .ok (.invokevirtual 353, 3) := by decide +kernel
theorem dX9_findRival_35 : decode cX9_findRival 35 = .ok (.checkcast 151, 3) := by decide +kernel
theorem dX9_findRival_38 : decode cX9_findRival 38 = .ok (.aload_n 1, 1) := by decide +kernel
theorem dX9_findRival_39 : decode cX9_findRival 39 = .ok (.iload_n 2, 1) := by decide +kernel
theorem dX9_findRival_40 : decode cX9_findRival 40 = .ok (.iload 4, 2) := by decide +kernel
theorem dX9_findRival_42 : decode cX9_findRival 42 = .ok (.invokevirtual 392, 3) := by decide +kernel
theorem dX9_findRival_45 : decode cX9_findRival 45 = .ok (.istore 7, 2) := by decide +kernel
theorem dX9_findRival_47 : decode cX9_findRival 47 = .ok (.iload 7, 2) := by decide +kernel
theorem dX9_findRival_49 : decode cX9_findRival 49 = .ok (.ifCond .eq 12, 3) := by decide +kernel
theorem dX9_findRival_52 : decode cX9_findRival 52 = .ok (.iload 5, 2) := by decide +kernel
theorem dX9_findRival_54 : decode cX9_findRival 54 = .ok (.iload_n 3, 1) := by decide +kernel
theorem dX9_findRival_55 : decode cX9_findRival 55 = .ok (.if_icmp .ne 6, 3) := by decide +kernel
theorem dX9_findRival_58 : decode cX9_findRival 58 = .ok (.iload 6, 2) := by decide +kernel
theorem dX9_findRival_60 : decode cX9_findRival 60 = .ok (.ireturn, 1) := by decide +kernel
theorem dX9_findRival_61 : decode cX9_findRival 61 = .ok (.iload 5, 2) := by decide +kernel
theorem dX9_findRival_63 : decode cX9_findRival 63 = .ok (.iload 7, 2) := by decide +kernel
theorem dX9_findRival_65 : decode cX9_findRival 65 = .ok (.ifCond .eq 7, 3) := by decide +kernel
theorem dX9_findRival_68 : decode cX9_findRival 68 = .ok (.iconst 1, 1) := by decide +kernel
theorem dX9_findRival_69 : decode cX9_findRival 69 = .ok (.goto 4, 3) := by decide +kernel
theorem dX9_findRival_72 : decode cX9_findRival 72 = .ok (.iconst 0, 1) := by decide +kernel
theorem dX9_findRival_73 : decode cX9_findRival 73 = .ok (.iadd, 1) := by decide +kernel
theorem dX9_findRival_74 : decode cX9_findRival 74 = .ok (.istore 5, 2) := by decide +kernel
theorem dX9_findRival_76 : decode cX9_findRival 76 = .ok (.iinc 6 1, 3) := by decide +kernel
theorem dX9_findRival_79 : decode cX9_findRival 79 = .ok (.goto (-65), 3) := by decide +kernel
theorem dX9_findRival_82 : decode cX9_findRival 82 = .ok (.bipush (-9), 2) := by decide +kernel
theorem dX9_findRival_84 : decode cX9_findRival 84 = .ok (.ireturn, 1) := by decide +kernel
theorem dX9_beginNight_0 : decode cX9_beginNight 0 = .ok (.aload_n 0, 1) := by decide +kernel
theorem dX9_beginNight_1 : decode cX9_beginNight 1 = .ok (.getfield 10, 3) := by decide +kernel
theorem dX9_beginNight_4 : decode cX9_beginNight 4 = .ok (.dup, 1) := by decide +kernel
theorem dX9_beginNight_5 : decode cX9_beginNight 5 = .ok (.getfield 347, 3) := by decide +kernel
theorem dX9_beginNight_8 : decode cX9_beginNight 8 = .ok (.iconst 1, 1) := by decide +kernel
theorem dX9_beginNight_9 : decode cX9_beginNight 9 = .ok (.iadd, 1) := by decide +kernel
theorem dX9_beginNight_10 : decode cX9_beginNight 10 = .ok (.putfield 347, 3) := by decide +kernel
theorem dX9_beginNight_13 : decode cX9_beginNight 13 = .ok (.iconst 0, 1) := by decide +kernel
theorem dX9_beginNight_14 : decode cX9_beginNight 14 = .ok (.istore_n 1, 1) := by decide +kernel
theorem dX9_beginNight_15 : decode cX9_beginNight 15 = .ok (.iload_n 1, 1) := by decide +kernel
theorem dX9_beginNight_16 : decode cX9_beginNight 16 = .ok (.aload_n 0, 1) := by decide +kernel
theorem dX9_beginNight_17 : decode cX9_beginNight 17 = .ok (.getfield 18, 3) := by decide +kernel
theorem dX9_beginNight_20 : decode cX9_beginNight 20 = .ok (.arraylength, 1) := by decide +kernel
theorem dX9_beginNight_21 : decode cX9_beginNight 21 = .ok (.if_icmp .ge 29, 3) := by decide +kernel
theorem dX9_beginNight_24 : decode cX9_beginNight 24 = .ok (.aload_n 0, 1) := by decide +kernel
theorem dX9_beginNight_25 : decode cX9_beginNight 25 = .ok (.getfield 18, 3) := by decide +kernel
theorem dX9_beginNight_28 : decode cX9_beginNight 28 = .ok (.iload_n 1, 1) := by decide +kernel
theorem dX9_beginNight_29 : decode cX9_beginNight 29 = .ok (.aaload, 1) := by decide +kernel
theorem dX9_beginNight_30 : decode cX9_beginNight 30 = .ok (.iconst 0, 1) := by decide +kernel
theorem dX9_beginNight_31 : decode cX9_beginNight 31 = .ok (.putfield 396, 3) := by decide +kernel
theorem dX9_beginNight_34 : decode cX9_beginNight 34 = .ok (.aload_n 0, 1) := by decide +kernel
theorem dX9_beginNight_35 : decode cX9_beginNight 35 = .ok (.getfield 18, 3) := by decide +kernel
theorem dX9_beginNight_38 : decode cX9_beginNight 38 = .ok (.iload_n 1, 1) := by decide +kernel
theorem dX9_beginNight_39 : decode cX9_beginNight 39 = .ok (.aaload, 1) := by decide +kernel
theorem dX9_beginNight_40 : decode cX9_beginNight 40 = .ok (.lconst 0, 1) := by decide +kernel
theorem dX9_beginNight_41 : decode cX9_beginNight 41 = .ok (.putfield 138, 3) := by decide +kernel
theorem dX9_beginNight_44 : decode cX9_beginNight 44 = .ok (.iinc 1 1, 3) := by decide +kernel
theorem dX9_beginNight_47 : decode cX9_beginNight 47 = .ok (.goto (-32), 3) := by decide +kernel
theorem dX9_beginNight_50 : decode cX9_beginNight 50 = .ok (.return_, 1) := by decide +kernel
theorem dX9_keepSums_0 : decode cX9_keepSums 0 = .ok (.iconst 0, 1) := by decide +kernel
theorem dX9_keepSums_1 : decode cX9_keepSums 1 = .ok (.istore_n 1, 1) := by decide +kernel
theorem dX9_keepSums_2 : decode cX9_keepSums 2 = .ok (.iload_n 1, 1) := by decide +kernel
theorem dX9_keepSums_3 : decode cX9_keepSums 3 = .ok (.aload_n 0, 1) := by decide +kernel
theorem dX9_keepSums_4 : decode cX9_keepSums 4 = .ok (.getfield 28, 3) := by decide +kernel
theorem dX9_keepSums_7 : decode cX9_keepSums 7 = .ok (.invokevirtual 142, 3) := by decide +kernel
theorem dX9_keepSums_10 : decode cX9_keepSums 10 = .ok (.if_icmp .ge 30, 3) := by decide +kernel
theorem dX9_keepSums_13 : decode cX9_keepSums 13 = .ok (.aload_n 0, 1) := by decide +kernel
theorem dX9_keepSums_14 : decode cX9_keepSums 14 = .ok (.getfield 28, 3) := by decide +kernel
theorem dX9_keepSums_17 : decode cX9_keepSums 17 = .ok (.iload_n 1, 1) := by decide +kernel
theorem dX9_keepSums_18 : decode cX9_keepSums 18 = .ok (.invokevirtual 353, 3) := by decide +kernel
theorem dX9_keepSums_21 : decode cX9_keepSums 21 = .ok (.checkcast 151, 3) := by decide +kernel
theorem dX9_keepSums_24 : decode cX9_keepSums 24 = .ok (.aload_n 0, 1) := by decide +kernel
theorem dX9_keepSums_25 : decode cX9_keepSums 25 = .ok (.getfield 10, 3) := by decide +kernel
theorem dX9_keepSums_28 : decode cX9_keepSums 28 = .ok (.getfield 71, 3) := by decide +kernel
theorem dX9_keepSums_31 : decode cX9_keepSums 31 = .ok (.invokevirtual 397, 3) := by decide +kernel
theorem dX9_keepSums_34 : decode cX9_keepSums 34 = .ok (.iinc 1 1, 3) := by decide +kernel
theorem dX9_keepSums_37 : decode cX9_keepSums 37 = .ok (.goto (-35), 3) := by decide +kernel
theorem dX9_keepSums_40 : decode cX9_keepSums 40 = .ok (.return_, 1) := by decide +kernel
theorem dX9_doMoves_0 : decode cX9_doMoves 0 = .ok (.iconst 0, 1) := by decide +kernel
theorem dX9_doMoves_1 : decode cX9_doMoves 1 = .ok (.istore_n 1, 1) := by decide +kernel
theorem dX9_doMoves_2 : decode cX9_doMoves 2 = .ok (.iload_n 1, 1) := by decide +kernel
theorem dX9_doMoves_3 : decode cX9_doMoves 3 = .ok (.aload_n 0, 1) := by decide +kernel
theorem dX9_doMoves_4 : decode cX9_doMoves 4 = .ok (.getfield 35, 3) := by decide +kernel
theorem dX9_doMoves_7 : decode cX9_doMoves 7 = .ok (.invokevirtual 142, 3) := by decide +kernel
theorem dX9_doMoves_10 : decode cX9_doMoves 10 = .ok (.if_icmp .ge 47, 3) := by decide +kernel
theorem dX9_doMoves_13 : decode cX9_doMoves 13 = .ok (.aload_n 0, 1) := by decide +kernel
theorem dX9_doMoves_14 : decode cX9_doMoves 14 = .ok (.getfield 35, 3) := by decide +kernel
theorem dX9_doMoves_17 : decode cX9_doMoves 17 = .ok (.iload_n 1, 1) := by decide +kernel
theorem dX9_doMoves_18 : decode cX9_doMoves 18 = .ok (.invokevirtual 353, 3) := by decide +kernel
theorem dX9_doMoves_21 : decode cX9_doMoves 21 = .ok (.checkcast 271, 3) := by decide +kernel
theorem dX9_doMoves_24 : decode cX9_doMoves 24 = .ok (.astore_n 2, 1) := by decide +kernel
theorem dX9_doMoves_25 : decode cX9_doMoves 25 = .ok (.aload_n 2, 1) := by decide +kernel
theorem dX9_doMoves_26 : decode cX9_doMoves 26 = .ok (.getfield 290, 3) := by decide +kernel
theorem dX9_doMoves_29 : decode cX9_doMoves 29 = .ok (.ifCond .eq 22, 3) := by decide +kernel
theorem dX9_doMoves_32 : decode cX9_doMoves 32 = .ok (.aload_n 2, 1) := by decide +kernel
theorem dX9_doMoves_33 : decode cX9_doMoves 33 = .ok (.getfield 311, 3) := by decide +kernel
theorem dX9_doMoves_36 : decode cX9_doMoves 36 = .ok (.aload_n 0, 1) := by decide +kernel
theorem dX9_doMoves_37 : decode cX9_doMoves 37 = .ok (.getfield 10, 3) := by decide +kernel
theorem dX9_doMoves_40 : decode cX9_doMoves 40 = .ok (.getfield 71, 3) := by decide +kernel
theorem dX9_doMoves_43 : decode cX9_doMoves 43 = .ok (.if_icmp .ge 8, 3) := by decide +kernel
theorem dX9_doMoves_46 : decode cX9_doMoves 46 = .ok (.aload_n 0, 1) := by decide +kernel
theorem dX9_doMoves_47 : decode cX9_doMoves 47 = .ok (.aload_n 2, 1) := by decide +kernel
theorem dX9_doMoves_48 : decode cX9_doMoves 48 = .ok (.invokevirtual 400, 3) := by decide +kernel
theorem dX9_doMoves_51 : decode cX9_doMoves 51 = .ok (.iinc 1 1, 3) := by decide +kernel
theorem dX9_doMoves_54 : decode cX9_doMoves 54 = .ok (.goto (-52), 3) := by decide +kernel
theorem dX9_doMoves_57 : decode cX9_doMoves 57 = .ok (.return_, 1) := by decide +kernel
theorem dX9_moveOn_0 : decode cX9_moveOn 0 = .ok (.aload_n 1, 1) := by decide +kernel
theorem dX9_moveOn_1 : decode cX9_moveOn 1 = .ok (.getfield 280, 3) := by decide +kernel
theorem dX9_moveOn_4 : decode cX9_moveOn 4 = .ok (.getfield 176, 3) := by decide +kernel
theorem dX9_moveOn_7 : decode cX9_moveOn 7 = .ok (.astore_n 2, 1) := by decide +kernel
theorem dX9_moveOn_8 : decode cX9_moveOn 8 = .ok (.aload_n 1, 1) := by decide +kernel
theorem dX9_moveOn_9 : decode cX9_moveOn 9 = .ok (.getfield 299, 3) := by decide +kernel
theorem dX9_moveOn_12 : decode cX9_moveOn 12 = .ok (.getfield 176, 3) := by decide +kernel
theorem dX9_moveOn_15 : decode cX9_moveOn 15 = .ok (.astore_n 3, 1) := by decide +kernel
theorem dX9_moveOn_16 : decode cX9_moveOn 16 = .ok (.aload_n 0, 1) := by decide +kernel
theorem dX9_moveOn_17 : decode cX9_moveOn 17 = .ok (.getfield 10, 3) := by decide +kernel
theorem dX9_moveOn_20 : decode cX9_moveOn 20 = .ok (.aload_n 2, 1) := by decide +kernel
theorem dX9_moveOn_21 : decode cX9_moveOn 21 = .ok (.getfield 180, 3) := by decide +kernel
theorem dX9_moveOn_24 : decode cX9_moveOn 24 = .ok (.aload_n 0, 1) := by decide +kernel
theorem dX9_moveOn_25 : decode cX9_moveOn 25 = .ok (.getfield 10, 3) := by decide +kernel
theorem dX9_moveOn_28 : decode cX9_moveOn 28 = .ok (.getfield 71, 3) := by decide +kernel
theorem dX9_moveOn_31 : decode cX9_moveOn 31 = .ok (.invokevirtual 120, 3) := by decide +kernel
theorem dX9_moveOn_34 : decode cX9_moveOn 34 = .ok (.ifCond .eq 11, 3) := by decide +kernel
theorem dX9_moveOn_37 : decode cX9_moveOn 37 = .ok (.aload_n 1, 1) := by decide +kernel
theorem dX9_moveOn_38 : decode cX9_moveOn 38 = .ok (.aload_n 2, 1) := by decide +kernel
theorem dX9_moveOn_39 : decode cX9_moveOn 39 = .ok (.invokevirtual 404, 3) := by decide +kernel
theorem dX9_moveOn_42 : decode cX9_moveOn 42 = .ok (.goto 92, 3) := by decide +kernel
theorem dX9_moveOn_45 : decode cX9_moveOn 45 = .ok (.aload_n 0, 1) := by decide +kernel
theorem dX9_moveOn_46 : decode cX9_moveOn 46 = .ok (.getfield 10, 3) := by decide +kernel
theorem dX9_moveOn_49 : decode cX9_moveOn 49 = .ok (.aload_n 3, 1) := by decide +kernel
theorem dX9_moveOn_50 : decode cX9_moveOn 50 = .ok (.getfield 180, 3) := by decide +kernel
theorem dX9_moveOn_53 : decode cX9_moveOn 53 = .ok (.aload_n 0, 1) := by decide +kernel
theorem dX9_moveOn_54 : decode cX9_moveOn 54 = .ok (.getfield 10, 3) := by decide +kernel
theorem dX9_moveOn_57 : decode cX9_moveOn 57 = .ok (.getfield 71, 3) := by decide +kernel
theorem dX9_moveOn_60 : decode cX9_moveOn 60 = .ok (.invokevirtual 120, 3) := by decide +kernel
theorem dX9_moveOn_63 : decode cX9_moveOn 63 = .ok (.ifCond .eq 11, 3) := by decide +kernel
theorem dX9_moveOn_66 : decode cX9_moveOn 66 = .ok (.aload_n 1, 1) := by decide +kernel
theorem dX9_moveOn_67 : decode cX9_moveOn 67 = .ok (.aload_n 3, 1) := by decide +kernel
theorem dX9_moveOn_68 : decode cX9_moveOn 68 = .ok (.invokevirtual 404, 3) := by decide +kernel
theorem dX9_moveOn_71 : decode cX9_moveOn 71 = .ok (.goto 63, 3) := by decide +kernel
theorem dX9_moveOn_74 : decode cX9_moveOn 74 = .ok (.aload_n 2, 1) := by decide +kernel
theorem dX9_moveOn_75 : decode cX9_moveOn 75 = .ok (.invokevirtual 408, 3) := by decide +kernel
theorem dX9_moveOn_78 : decode cX9_moveOn 78 = .ok (.ifCond .eq 56, 3) := by decide +kernel
theorem dX9_moveOn_81 : decode cX9_moveOn 81 = .ok (.aload_n 3, 1) := by decide +kernel
theorem dX9_moveOn_82 : decode cX9_moveOn 82 = .ok (.invokevirtual 408, 3) := by decide +kernel
theorem dX9_moveOn_85 : decode cX9_moveOn 85 = .ok (.ifCond .eq 49, 3) := by decide +kernel
theorem dX9_moveOn_88 : decode cX9_moveOn 88 = .ok (.aload_n 2, 1) := by decide +kernel
theorem dX9_moveOn_89 : decode cX9_moveOn 89 = .ok (.dup, 1) := by decide +kernel
theorem dX9_moveOn_90 : decode cX9_moveOn 90 = .ok (.getfield 396, 3) := by decide +kernel
theorem dX9_moveOn_93 : decode cX9_moveOn 93 = .ok (.iconst 1, 1) := by decide +kernel
theorem dX9_moveOn_94 : decode cX9_moveOn 94 = .ok (.iadd, 1) := by decide +kernel
theorem dX9_moveOn_95 : decode cX9_moveOn 95 = .ok (.putfield 396, 3) := by decide +kernel
theorem dX9_moveOn_98 : decode cX9_moveOn 98 = .ok (.aload_n 3, 1) := by decide +kernel
theorem dX9_moveOn_99 : decode cX9_moveOn 99 = .ok (.dup, 1) := by decide +kernel
theorem dX9_moveOn_100 : decode cX9_moveOn 100 = .ok (.getfield 396, 3) := by decide +kernel
theorem dX9_moveOn_103 : decode cX9_moveOn 103 = .ok (.iconst 1, 1) := by decide +kernel
theorem dX9_moveOn_104 : decode cX9_moveOn 104 = .ok (.iadd, 1) := by decide +kernel
theorem dX9_moveOn_105 : decode cX9_moveOn 105 = .ok (.putfield 396, 3) := by decide +kernel
theorem dX9_moveOn_108 : decode cX9_moveOn 108 = .ok (.aload_n 1, 1) := by decide +kernel
theorem dX9_moveOn_109 : decode cX9_moveOn 109 = .ok (.dup, 1) := by decide +kernel
theorem dX9_moveOn_110 : decode cX9_moveOn 110 = .ok (.getfield 293, 3) := by decide +kernel
theorem dX9_moveOn_113 : decode cX9_moveOn 113 = .ok (.iconst 1, 1) := by decide +kernel
theorem dX9_moveOn_114 : decode cX9_moveOn 114 = .ok (.iadd, 1) := by decide +kernel
theorem dX9_moveOn_115 : decode cX9_moveOn 115 = .ok (.putfield 293, 3) := by decide +kernel
theorem dX9_moveOn_118 : decode cX9_moveOn 118 = .ok (.aload_n 1, 1) := by decide +kernel
theorem dX9_moveOn_119 : decode cX9_moveOn 119 = .ok (.aload_n 0, 1) := by decide +kernel
theorem dX9_moveOn_120 : decode cX9_moveOn 120 = .ok (.getfield 10, 3) := by decide +kernel
theorem dX9_moveOn_123 : decode cX9_moveOn 123 = .ok (.getfield 71, 3) := by decide +kernel
theorem dX9_moveOn_126 : decode cX9_moveOn 126 = .ok (.putfield 314, 3) := by decide +kernel
theorem dX9_moveOn_129 : decode cX9_moveOn 129 = .ok (.aload_n 0, 1) := by decide +kernel
theorem dX9_moveOn_130 : decode cX9_moveOn 130 = .ok (.aload_n 1, 1) := by decide +kernel
theorem dX9_moveOn_131 : decode cX9_moveOn 131 = .ok (.invokevirtual 411, 3) := by decide +kernel
theorem dX9_moveOn_134 : decode cX9_moveOn 134 = .ok (.return_, 1) := by decide +kernel
theorem dX9_doStep_0 : decode cX9_doStep 0 = .ok (.aload_n 1, 1) := by decide +kernel
theorem dX9_doStep_1 : decode cX9_doStep 1 = .ok (.getfield 293, 3) := by decide +kernel
theorem dX9_doStep_4 : decode cX9_doStep 4 = .ok (.tableswitch 155 3 7 #[36, 155, 61, 96, 104], 36) := by decide +kernel
theorem dX9_doStep_40 : decode cX9_doStep 40 = .ok (.aload_n 1, 1) := by decide +kernel
theorem dX9_doStep_41 : decode cX9_doStep 41 = .ok (.getfield 280, 3) := by decide +kernel
theorem dX9_doStep_44 : decode cX9_doStep 44 = .ok (.invokevirtual 283, 3) := by decide +kernel
theorem dX9_doStep_47 : decode cX9_doStep 47 = .ok (.ifCond .eq 112, 3) := by decide +kernel
theorem dX9_doStep_50 : decode cX9_doStep 50 = .ok (.aload_n 1, 1) := by decide +kernel
theorem dX9_doStep_51 : decode cX9_doStep 51 = .ok (.getfield 287, 3) := by decide +kernel
theorem dX9_doStep_54 : decode cX9_doStep 54 = .ok (.ifCond .ne 105, 3) := by decide +kernel
theorem dX9_doStep_57 : decode cX9_doStep 57 = .ok (.aload_n 1, 1) := by decide +kernel
theorem dX9_doStep_58 : decode cX9_doStep 58 = .ok (.iconst 1, 1) := by decide +kernel
theorem dX9_doStep_59 : decode cX9_doStep 59 = .ok (.invokevirtual 296, 3) := by decide +kernel
theorem dX9_doStep_62 : decode cX9_doStep 62 = .ok (.goto 97, 3) := by decide +kernel
theorem dX9_doStep_65 : decode cX9_doStep 65 = .ok (.aload_n 1, 1) := by decide +kernel
theorem dX9_doStep_66 : decode cX9_doStep 66 = .ok (.getfield 414, 3) := by decide +kernel
theorem dX9_doStep_69 : decode cX9_doStep 69 = .ok (.ifCond .ne 90, 3) := by decide +kernel
theorem dX9_doStep_72 : decode cX9_doStep 72 = .ok (.aload_n 1, 1) := by decide +kernel
theorem dX9_doStep_73 : decode cX9_doStep 73 = .ok (.getfield 280, 3) := by decide +kernel
theorem dX9_doStep_76 : decode cX9_doStep 76 = .ok (.getfield 163, 3) := by decide +kernel
theorem dX9_doStep_79 : decode cX9_doStep 79 = .ok (.lconst 0, 1) := by decide +kernel
theorem dX9_doStep_80 : decode cX9_doStep 80 = .ok (.lcmp, 1) := by decide +kernel
theorem dX9_doStep_81 : decode cX9_doStep 81 = .ok (.ifCond .ge 78, 3) := by decide +kernel
theorem dX9_doStep_84 : decode cX9_doStep 84 = .ok (.aload_n 0, 1) := by decide +kernel
theorem dX9_doStep_85 : decode cX9_doStep 85 = .ok (.aload_n 1, 1) := by decide +kernel
theorem dX9_doStep_86 : decode cX9_doStep 86 = .ok (.invokevirtual 417, 3) := by decide +kernel
theorem dX9_doStep_89 : decode cX9_doStep 89 = .ok (.ifCond .eq 70, 3) := by decide +kernel
theorem dX9_doStep_92 : decode cX9_doStep 92 = .ok (.aload_n 1, 1) := by decide +kernel
theorem dX9_doStep_93 : decode cX9_doStep 93 = .ok (.iconst 2, 1) := by decide +kernel
theorem dX9_doStep_94 : decode cX9_doStep 94 = .ok (.invokevirtual 296, 3) := by decide +kernel
theorem dX9_doStep_97 : decode cX9_doStep 97 = .ok (.goto 62, 3) := by decide +kernel
theorem dX9_doStep_100 : decode cX9_doStep 100 = .ok (.aload_n 0, 1) := by decide +kernel
theorem dX9_doStep_101 : decode cX9_doStep 101 = .ok (.aload_n 1, 1) := by decide +kernel
theorem dX9_doStep_102 : decode cX9_doStep 102 = .ok (.invokevirtual 421, 3) := by decide +kernel
theorem dX9_doStep_105 : decode cX9_doStep 105 = .ok (.goto 54, 3) := by decide +kernel
theorem dX9_doStep_108 : decode cX9_doStep 108 = .ok (.aload_n 1, 1) := by decide +kernel
theorem dX9_doStep_109 : decode cX9_doStep 109 = .ok (.iconst 0, 1) := by decide +kernel
theorem dX9_doStep_110 : decode cX9_doStep 110 = .ok (.putfield 290, 3) := by decide +kernel
theorem dX9_doStep_113 : decode cX9_doStep 113 = .ok (.aload_n 1, 1) := by decide +kernel
theorem dX9_doStep_114 : decode cX9_doStep 114 = .ok (.getfield 414, 3) := by decide +kernel
theorem dX9_doStep_117 : decode cX9_doStep 117 = .ok (.ifCond .ne 42, 3) := by decide +kernel
theorem dX9_doStep_120 : decode cX9_doStep 120 = .ok (.aload_n 1, 1) := by decide +kernel
theorem dX9_doStep_121 : decode cX9_doStep 121 = .ok (.getfield 280, 3) := by decide +kernel
theorem dX9_doStep_124 : decode cX9_doStep 124 = .ok (.aload_n 1, 1) := by decide +kernel
theorem dX9_doStep_125 : decode cX9_doStep 125 = .ok (.getfield 299, 3) := by decide +kernel
theorem dX9_doStep_128 : decode cX9_doStep 128 = .ok (.aload_n 1, 1) := by decide +kernel
theorem dX9_doStep_129 : decode cX9_doStep 129 = .ok (.getfield 280, 3) := by decide +kernel
theorem dX9_doStep_132 : decode cX9_doStep 132 = .ok (.getfield 163, 3) := by decide +kernel
theorem dX9_doStep_135 : decode cX9_doStep 135 = .ok (.invokestatic 424, 3) := by decide +kernel
theorem dX9_doStep_138 : decode cX9_doStep 138 = .ok (.aload_n 1, 1) := by decide +kernel
theorem dX9_doStep_139 : decode cX9_doStep 139 = .ok (.getfield 280, 3) := by decide +kernel
theorem dX9_doStep_142 : decode cX9_doStep 142 = .ok (.aload_n 1, 1) := by decide +kernel
theorem dX9_doStep_143 : decode cX9_doStep 143 = .ok (.getfield 299, 3) := by decide +kernel
theorem dX9_doStep_146 : decode cX9_doStep 146 = .ok (.aload_n 0, 1) := by decide +kernel
theorem dX9_doStep_147 : decode cX9_doStep 147 = .ok (.getfield 10, 3) := by decide +kernel
theorem dX9_doStep_150 : decode cX9_doStep 150 = .ok (.getfield 71, 3) := by decide +kernel
theorem dX9_doStep_153 : decode cX9_doStep 153 = .ok (.invokevirtual 428, 3) := by decide +kernel
theorem dX9_doStep_156 : decode cX9_doStep 156 = .ok (.goto 3, 3) := by decide +kernel
theorem dX9_doStep_159 : decode cX9_doStep 159 = .ok (.return_, 1) := by decide +kernel
theorem dX9_moveLines_0 : decode cX9_moveLines 0 = .ok (.iconst 0, 1) := by decide +kernel
theorem dX9_moveLines_1 : decode cX9_moveLines 1 = .ok (.istore_n 2, 1) := by decide +kernel
theorem dX9_moveLines_2 : decode cX9_moveLines 2 = .ok (.iload_n 2, 1) := by decide +kernel
theorem dX9_moveLines_3 : decode cX9_moveLines 3 = .ok (.aload_n 0, 1) := by decide +kernel
theorem dX9_moveLines_4 : decode cX9_moveLines 4 = .ok (.getfield 32, 3) := by decide +kernel
theorem dX9_moveLines_7 : decode cX9_moveLines 7 = .ok (.invokevirtual 142, 3) := by decide +kernel
theorem dX9_moveLines_10 : decode cX9_moveLines 10 = .ok (.if_icmp .ge 55, 3) := by decide +kernel
theorem dX9_moveLines_13 : decode cX9_moveLines 13 = .ok (.aload_n 0, 1) := by decide +kernel
theorem dX9_moveLines_14 : decode cX9_moveLines 14 = .ok (.getfield 32, 3) := by decide +kernel
theorem dX9_moveLines_17 : decode cX9_moveLines 17 = .ok (.iload_n 2, 1) := by decide +kernel
theorem dX9_moveLines_18 : decode cX9_moveLines 18 = .ok (.invokevirtual 353, 3) := by decide +kernel
theorem dX9_moveLines_21 : decode cX9_moveLines 21 = .ok (.checkcast 224, 3) := by decide +kernel
theorem dX9_moveLines_24 : decode cX9_moveLines 24 = .ok (.astore_n 3, 1) := by decide +kernel
theorem dX9_moveLines_25 : decode cX9_moveLines 25 = .ok (.aload_n 3, 1) := by decide +kernel
theorem dX9_moveLines_26 : decode cX9_moveLines 26 = .ok (.getfield 246, 3) := by decide +kernel
theorem dX9_moveLines_29 : decode cX9_moveLines 29 = .ok (.aload_n 1, 1) := by decide +kernel
theorem dX9_moveLines_30 : decode cX9_moveLines 30 = .ok (.getfield 280, 3) := by decide +kernel
theorem dX9_moveLines_33 : decode cX9_moveLines 33 = .ok (.if_acmp .ne 26, 3) := by decide +kernel
theorem dX9_moveLines_36 : decode cX9_moveLines 36 = .ok (.aload_n 1, 1) := by decide +kernel
theorem dX9_moveLines_37 : decode cX9_moveLines 37 = .ok (.getfield 414, 3) := by decide +kernel
theorem dX9_moveLines_40 : decode cX9_moveLines 40 = .ok (.ifCond .eq 11, 3) := by decide +kernel
theorem dX9_moveLines_43 : decode cX9_moveLines 43 = .ok (.aload_n 3, 1) := by decide +kernel
theorem dX9_moveLines_44 : decode cX9_moveLines 44 = .ok (.getfield 243, 3) := by decide +kernel
theorem dX9_moveLines_47 : decode cX9_moveLines 47 = .ok (.iconst 1, 1) := by decide +kernel
theorem dX9_moveLines_48 : decode cX9_moveLines 48 = .ok (.if_icmp .ne 11, 3) := by decide +kernel
theorem dX9_moveLines_51 : decode cX9_moveLines 51 = .ok (.aload_n 3, 1) := by decide +kernel
theorem dX9_moveLines_52 : decode cX9_moveLines 52 = .ok (.aload_n 1, 1) := by decide +kernel
theorem dX9_moveLines_53 : decode cX9_moveLines 53 = .ok (.getfield 299, 3) := by decide +kernel
theorem dX9_moveLines_56 : decode cX9_moveLines 56 = .ok (.putfield 246, 3) := by decide +kernel
theorem dX9_moveLines_59 : decode cX9_moveLines 59 = .ok (.iinc 2 1, 3) := by decide +kernel
theorem dX9_moveLines_62 : decode cX9_moveLines 62 = .ok (.goto (-60), 3) := by decide +kernel
theorem dX9_moveLines_65 : decode cX9_moveLines 65 = .ok (.return_, 1) := by decide +kernel
theorem dX9_mayLeave_0 : decode cX9_mayLeave 0 = .ok (.aload_n 0, 1) := by decide +kernel
theorem dX9_mayLeave_1 : decode cX9_mayLeave 1 = .ok (.getfield 41, 3) := by decide +kernel
theorem dX9_mayLeave_4 : decode cX9_mayLeave 4 = .ok (.iconst 0, 1) := by decide +kernel
theorem dX9_mayLeave_5 : decode cX9_mayLeave 5 = .ok (.aload_n 0, 1) := by decide +kernel
theorem dX9_mayLeave_6 : decode cX9_mayLeave 6 = .ok (.getfield 10, 3) := by decide +kernel
theorem dX9_mayLeave_9 : decode cX9_mayLeave 9 = .ok (.getfield 71, 3) := by decide +kernel
theorem dX9_mayLeave_12 : decode cX9_mayLeave 12 = .ok (.invokevirtual 365, 3) := by decide +kernel
theorem dX9_mayLeave_15 : decode cX9_mayLeave 15 = .ok (.astore_n 3, 1) := by decide +kernel
theorem dX9_mayLeave_16 : decode cX9_mayLeave 16 = .ok (.aload_n 3, 1) := by decide +kernel
theorem dX9_mayLeave_17 : decode cX9_mayLeave 17 = .ok (.ifnonnull 5, 3) := by decide +kernel
theorem dX9_mayLeave_20 : decode cX9_mayLeave 20 = .ok (.iconst 1, 1) := by decide +kernel
theorem dX9_mayLeave_21 : decode cX9_mayLeave 21 = .ok (.ireturn, 1) := by decide +kernel
theorem dX9_mayLeave_22 : decode cX9_mayLeave 22 = .ok (.aload_n 3, 1) := by decide +kernel
theorem dX9_mayLeave_23 : decode cX9_mayLeave 23 = .ok (.aload_n 0, 1) := by decide +kernel
theorem dX9_mayLeave_24 : decode cX9_mayLeave 24 = .ok (.aload_n 1, 1) := by decide +kernel
theorem dX9_mayLeave_25 : decode cX9_mayLeave 25 = .ok (.aload_n 2, 1) := by decide +kernel
theorem dX9_mayLeave_26 : decode cX9_mayLeave 26 = .ok (.invokevirtual 432, 3) := by decide +kernel
theorem dX9_mayLeave_29 : decode cX9_mayLeave 29 = .ok (.aload_n 0, 1) := by decide +kernel
theorem dX9_mayLeave_30 : decode cX9_mayLeave 30 = .ok (.getfield 41, 3) := by decide +kernel
theorem dX9_mayLeave_33 : decode cX9_mayLeave 33 = .ok (.getfield 377, 3) := by decide +kernel
theorem dX9_mayLeave_36 : decode cX9_mayLeave 36 = .ok (.invokevirtual 380, 3) := by decide +kernel
theorem dX9_mayLeave_39 : decode cX9_mayLeave 39 = .ok (.lconst 0, 1) := by decide +kernel
theorem dX9_mayLeave_40 : decode cX9_mayLeave 40 = .ok (.lcmp, 1) := by decide +kernel
theorem dX9_mayLeave_41 : decode cX9_mayLeave 41 = .ok (.ifCond .le 7, 3) := by decide +kernel
theorem dX9_mayLeave_44 : decode cX9_mayLeave 44 = .ok (.iconst 1, 1) := by decide +kernel
theorem dX9_mayLeave_45 : decode cX9_mayLeave 45 = .ok (.goto 4, 3) := by decide +kernel
theorem dX9_mayLeave_48 : decode cX9_mayLeave 48 = .ok (.iconst 0, 1) := by decide +kernel
theorem dX9_mayLeave_49 : decode cX9_mayLeave 49 = .ok (.ireturn, 1) := by decide +kernel
theorem dX9_refusesOverdrawn_0 : decode cX9_refusesOverdrawn 0 = .ok (.aload_n 0, 1) := by decide +kernel
theorem dX9_refusesOverdrawn_1 : decode cX9_refusesOverdrawn 1 = .ok (.getfield 41, 3) := by decide +kernel
theorem dX9_refusesOverdrawn_4 : decode cX9_refusesOverdrawn 4 = .ok (.iconst 2, 1) := by decide +kernel
theorem dX9_refusesOverdrawn_5 : decode cX9_refusesOverdrawn 5 = .ok (.aload_n 0, 1) := by decide +kernel
theorem dX9_refusesOverdrawn_6 : decode cX9_refusesOverdrawn 6 = .ok (.getfield 10, 3) := by decide +kernel
theorem dX9_refusesOverdrawn_9 : decode cX9_refusesOverdrawn 9 = .ok (.getfield 71, 3) := by decide +kernel
theorem dX9_refusesOverdrawn_12 : decode cX9_refusesOverdrawn 12 = .ok (.invokevirtual 365, 3) := by decide +kernel
theorem dX9_refusesOverdrawn_15 : decode cX9_refusesOverdrawn 15 = .ok (.astore_n 2, 1) := by decide +kernel
theorem dX9_refusesOverdrawn_16 : decode cX9_refusesOverdrawn 16 = .ok (.aload_n 2, 1) := by decide +kernel
theorem dX9_refusesOverdrawn_17 : decode cX9_refusesOverdrawn 17 = .ok (.ifnonnull 5, 3) := by decide +kernel
theorem dX9_refusesOverdrawn_20 : decode cX9_refusesOverdrawn 20 = .ok (.iconst 1, 1) := by decide +kernel
theorem dX9_refusesOverdrawn_21 : decode cX9_refusesOverdrawn 21 = .ok (.ireturn, 1) := by decide +kernel
theorem dX9_refusesOverdrawn_22 : decode cX9_refusesOverdrawn 22 = .ok (.aload_n 0, 1) := by decide +kernel
theorem dX9_refusesOverdrawn_23 : decode cX9_refusesOverdrawn 23 = .ok (.aload_n 1, 1) := by decide +kernel
theorem dX9_refusesOverdrawn_24 : decode cX9_refusesOverdrawn 24 = .ok (.getfield 280, 3) := by decide +kernel
theorem dX9_refusesOverdrawn_27 : decode cX9_refusesOverdrawn 27 = .ok (.aload_n 1, 1) := by decide +kernel
theorem dX9_refusesOverdrawn_28 : decode cX9_refusesOverdrawn 28 = .ok (.getfield 299, 3) := by decide +kernel
theorem dX9_refusesOverdrawn_31 : decode cX9_refusesOverdrawn 31 = .ok (.getfield 176, 3) := by decide +kernel
theorem dX9_refusesOverdrawn_34 : decode cX9_refusesOverdrawn 34 = .ok (.invokevirtual 432, 3) := by decide +kernel
theorem dX9_refusesOverdrawn_37 : decode cX9_refusesOverdrawn 37 = .ok (.astore_n 3, 1) := by decide +kernel
theorem dX9_refusesOverdrawn_38 : decode cX9_refusesOverdrawn 38 = .ok (.aload_n 3, 1) := by decide +kernel
theorem dX9_refusesOverdrawn_39 : decode cX9_refusesOverdrawn 39 = .ok (.bipush 9, 2) := by decide +kernel
theorem dX9_refusesOverdrawn_41 : decode cX9_refusesOverdrawn 41 = .ok (.aload_n 0, 1) := by decide +kernel
theorem dX9_refusesOverdrawn_42 : decode cX9_refusesOverdrawn 42 = .ok (.getfield 10, 3) := by decide +kernel
theorem dX9_refusesOverdrawn_45 : decode cX9_refusesOverdrawn 45 = .ok (.getfield 71, 3) := by decide +kernel
theorem dX9_refusesOverdrawn_48 : decode cX9_refusesOverdrawn 48 = .ok (.aload_n 1, 1) := by decide +kernel
theorem dX9_refusesOverdrawn_49 : decode cX9_refusesOverdrawn 49 = .ok (.getfield 311, 3) := by decide +kernel
theorem dX9_refusesOverdrawn_52 : decode cX9_refusesOverdrawn 52 = .ok (.isub, 1) := by decide +kernel
theorem dX9_refusesOverdrawn_53 : decode cX9_refusesOverdrawn 53 = .ok (.i2l, 1) := by decide +kernel
theorem dX9_refusesOverdrawn_54 : decode cX9_refusesOverdrawn 54 = .ok (.lastore, 1) := by decide +kernel
theorem dX9_refusesOverdrawn_55 : decode cX9_refusesOverdrawn 55 = .ok (.aload_n 2, 1) := by decide +kernel
theorem dX9_refusesOverdrawn_56 : decode cX9_refusesOverdrawn 56 = .ok (.aload_n 3, 1) := by decide +kernel
theorem dX9_refusesOverdrawn_57 : decode cX9_refusesOverdrawn 57 = .ok (.aload_n 0, 1) := by decide +kernel
theorem dX9_refusesOverdrawn_58 : decode cX9_refusesOverdrawn 58 = .ok (.getfield 41, 3) := by decide +kernel
theorem dX9_refusesOverdrawn_61 : decode cX9_refusesOverdrawn 61 = .ok (.getfield 377, 3) := by decide +kernel
theorem dX9_refusesOverdrawn_64 : decode cX9_refusesOverdrawn 64 = .ok (.invokevirtual 380, 3) := by decide +kernel
theorem dX9_refusesOverdrawn_67 : decode cX9_refusesOverdrawn 67 = .ok (.lconst 0, 1) := by decide +kernel
theorem dX9_refusesOverdrawn_68 : decode cX9_refusesOverdrawn 68 = .ok (.lcmp, 1) := by decide +kernel
theorem dX9_refusesOverdrawn_69 : decode cX9_refusesOverdrawn 69 = .ok (.ifCond .le 7, 3) := by decide +kernel
theorem dX9_refusesOverdrawn_72 : decode cX9_refusesOverdrawn 72 = .ok (.iconst 1, 1) := by decide +kernel
theorem dX9_refusesOverdrawn_73 : decode cX9_refusesOverdrawn 73 = .ok (.goto 4, 3) := by decide +kernel
theorem dX9_refusesOverdrawn_76 : decode cX9_refusesOverdrawn 76 = .ok (.iconst 0, 1) := by decide +kernel
theorem dX9_refusesOverdrawn_77 : decode cX9_refusesOverdrawn 77 = .ok (.ireturn, 1) := by decide +kernel
theorem dX9_lettersOfLeaving_0 : decode cX9_lettersOfLeaving 0 = .ok (.aload_n 0, 1) := by decide +kernel
theorem dX9_lettersOfLeaving_1 : decode cX9_lettersOfLeaving 1 = .ok (.getfield 41, 3) := by decide +kernel
theorem dX9_lettersOfLeaving_4 : decode cX9_lettersOfLeaving 4 = .ok (.invokevirtual 373, 3) := by decide +kernel
theorem dX9_lettersOfLeaving_7 : decode cX9_lettersOfLeaving 7 = .ok (.astore_n 3, 1) := by decide +kernel
theorem dX9_lettersOfLeaving_8 : decode cX9_lettersOfLeaving 8 = .ok (.aload_n 3, 1) := by decide +kernel
theorem dX9_lettersOfLeaving_9 : decode cX9_lettersOfLeaving 9 = .ok (.iconst 0, 1) := by decide +kernel
theorem dX9_lettersOfLeaving_10 : decode cX9_lettersOfLeaving 10 = .ok (.aload_n 1, 1) := by decide +kernel
theorem dX9_lettersOfLeaving_11 : decode cX9_lettersOfLeaving 11 = .ok (.getfield 176, 3) := by decide +kernel
theorem dX9_lettersOfLeaving_14 : decode cX9_lettersOfLeaving 14 = .ok (.getfield 180, 3) := by decide +kernel
theorem dX9_lettersOfLeaving_17 : decode cX9_lettersOfLeaving 17 = .ok (.i2l, 1) := by decide +kernel
theorem dX9_lettersOfLeaving_18 : decode cX9_lettersOfLeaving 18 = .ok (.lastore, 1) := by decide +kernel
theorem dX9_lettersOfLeaving_19 : decode cX9_lettersOfLeaving 19 = .ok (.aload_n 3, 1) := by decide +kernel
theorem dX9_lettersOfLeaving_20 : decode cX9_lettersOfLeaving 20 = .ok (.iconst 1, 1) := by decide +kernel
theorem dX9_lettersOfLeaving_21 : decode cX9_lettersOfLeaving 21 = .ok (.aload_n 2, 1) := by decide +kernel
theorem dX9_lettersOfLeaving_22 : decode cX9_lettersOfLeaving 22 = .ok (.getfield 180, 3) := by decide +kernel
theorem dX9_lettersOfLeaving_25 : decode cX9_lettersOfLeaving 25 = .ok (.i2l, 1) := by decide +kernel
theorem dX9_lettersOfLeaving_26 : decode cX9_lettersOfLeaving 26 = .ok (.lastore, 1) := by decide +kernel
theorem dX9_lettersOfLeaving_27 : decode cX9_lettersOfLeaving 27 = .ok (.aload_n 3, 1) := by decide +kernel
theorem dX9_lettersOfLeaving_28 : decode cX9_lettersOfLeaving 28 = .ok (.iconst 2, 1) := by decide +kernel
theorem dX9_lettersOfLeaving_29 : decode cX9_lettersOfLeaving 29 = .ok (.aload_n 1, 1) := by decide +kernel
theorem dX9_lettersOfLeaving_30 : decode cX9_lettersOfLeaving 30 = .ok (.getfield 163, 3) := by decide +kernel
theorem dX9_lettersOfLeaving_33 : decode cX9_lettersOfLeaving 33 = .ok (.lastore, 1) := by decide +kernel
theorem dX9_lettersOfLeaving_34 : decode cX9_lettersOfLeaving 34 = .ok (.aload_n 3, 1) := by decide +kernel
theorem dX9_lettersOfLeaving_35 : decode cX9_lettersOfLeaving 35 = .ok (.iconst 3, 1) := by decide +kernel
theorem dX9_lettersOfLeaving_36 : decode cX9_lettersOfLeaving 36 = .ok (.aload_n 1, 1) := by decide +kernel
theorem dX9_lettersOfLeaving_37 : decode cX9_lettersOfLeaving 37 = .ok (.getfield 166, 3) := by decide +kernel
theorem dX9_lettersOfLeaving_40 : decode cX9_lettersOfLeaving 40 = .ok (.i2l, 1) := by decide +kernel
theorem dX9_lettersOfLeaving_41 : decode cX9_lettersOfLeaving 41 = .ok (.lastore, 1) := by decide +kernel
theorem dX9_lettersOfLeaving_42 : decode cX9_lettersOfLeaving 42 = .ok (.aload_n 3, 1) := by decide +kernel
theorem dX9_lettersOfLeaving_43 : decode cX9_lettersOfLeaving 43 = .ok (.iconst 4, 1) := by decide +kernel
theorem dX9_lettersOfLeaving_44 : decode cX9_lettersOfLeaving 44 = .ok (.aload_n 1, 1) := by decide +kernel
theorem dX9_lettersOfLeaving_45 : decode cX9_lettersOfLeaving 45 = .ok (.invokevirtual 283, 3) := by decide +kernel
theorem dX9_lettersOfLeaving_48 : decode cX9_lettersOfLeaving 48 = .ok (.ifCond .eq 7, 3) := by decide +kernel
theorem dX9_lettersOfLeaving_51 : decode cX9_lettersOfLeaving 51 = .ok (.lconst 1, 1) := by decide +kernel
theorem dX9_lettersOfLeaving_52 : decode cX9_lettersOfLeaving 52 = .ok (.goto 4, 3) := by decide +kernel
theorem dX9_lettersOfLeaving_55 : decode cX9_lettersOfLeaving 55 = .ok (.lconst 0, 1) := by decide +kernel
theorem dX9_lettersOfLeaving_56 : decode cX9_lettersOfLeaving 56 = .ok (.lastore, 1) := by decide +kernel
theorem dX9_lettersOfLeaving_57 : decode cX9_lettersOfLeaving 57 = .ok (.aload_n 3, 1) := by decide +kernel
theorem dX9_lettersOfLeaving_58 : decode cX9_lettersOfLeaving 58 = .ok (.iconst 5, 1) := by decide +kernel
theorem dX9_lettersOfLeaving_59 : decode cX9_lettersOfLeaving 59 = .ok (.aload_n 0, 1) := by decide +kernel
theorem dX9_lettersOfLeaving_60 : decode cX9_lettersOfLeaving 60 = .ok (.aload_n 1, 1) := by decide +kernel
theorem dX9_lettersOfLeaving_61 : decode cX9_lettersOfLeaving 61 = .ok (.invokevirtual 340, 3) := by decide +kernel
theorem dX9_lettersOfLeaving_64 : decode cX9_lettersOfLeaving 64 = .ok (.i2l, 1) := by decide +kernel
theorem dX9_lettersOfLeaving_65 : decode cX9_lettersOfLeaving 65 = .ok (.lastore, 1) := by decide +kernel
theorem dX9_lettersOfLeaving_66 : decode cX9_lettersOfLeaving 66 = .ok (.aload_n 3, 1) := by decide +kernel
theorem dX9_lettersOfLeaving_67 : decode cX9_lettersOfLeaving 67 = .ok (.areturn, 1) := by decide +kernel
theorem dX9_carry_0 : decode cX9_carry 0 = .ok (.aload_n 0, 1) := by decide +kernel
theorem dX9_carry_1 : decode cX9_carry 1 = .ok (.dup, 1) := by decide +kernel
theorem dX9_carry_2 : decode cX9_carry 2 = .ok (.getfield 163, 3) := by decide +kernel
theorem dX9_carry_5 : decode cX9_carry 5 = .ok (.lload_n 2, 1) := by decide +kernel
theorem dX9_carry_6 : decode cX9_carry 6 = .ok (.lsub, 1) := by decide +kernel
theorem dX9_carry_7 : decode cX9_carry 7 = .ok (.putfield 163, 3) := by decide +kernel
theorem dX9_carry_10 : decode cX9_carry 10 = .ok (.aload_n 1, 1) := by decide +kernel
theorem dX9_carry_11 : decode cX9_carry 11 = .ok (.dup, 1) := by decide +kernel
theorem dX9_carry_12 : decode cX9_carry 12 = .ok (.getfield 163, 3) := by decide +kernel
theorem dX9_carry_15 : decode cX9_carry 15 = .ok (.lload_n 2, 1) := by decide +kernel
theorem dX9_carry_16 : decode cX9_carry 16 = .ok (.ladd, 1) := by decide +kernel
theorem dX9_carry_17 : decode cX9_carry 17 = .ok (.putfield 163, 3) := by decide +kernel
theorem dX9_carry_20 : decode cX9_carry 20 = .ok (.aload_n 0, 1) := by decide +kernel
theorem dX9_carry_21 : decode cX9_carry 21 = .ok (.getfield 176, 3) := by decide +kernel
theorem dX9_carry_24 : decode cX9_carry 24 = .ok (.dup, 1) := by decide +kernel
theorem dX9_carry_25 : decode cX9_carry 25 = .ok (.getfield 138, 3) := by decide +kernel
theorem dX9_carry_28 : decode cX9_carry 28 = .ok (.lload_n 2, 1) := by decide +kernel
theorem dX9_carry_29 : decode cX9_carry 29 = .ok (.lsub, 1) := by decide +kernel
theorem dX9_carry_30 : decode cX9_carry 30 = .ok (.putfield 138, 3) := by decide +kernel
theorem dX9_carry_33 : decode cX9_carry 33 = .ok (.aload_n 1, 1) := by decide +kernel
theorem dX9_carry_34 : decode cX9_carry 34 = .ok (.getfield 176, 3) := by decide +kernel
theorem dX9_carry_37 : decode cX9_carry 37 = .ok (.dup, 1) := by decide +kernel
theorem dX9_carry_38 : decode cX9_carry 38 = .ok (.getfield 138, 3) := by decide +kernel
theorem dX9_carry_41 : decode cX9_carry 41 = .ok (.lload_n 2, 1) := by decide +kernel
theorem dX9_carry_42 : decode cX9_carry 42 = .ok (.ladd, 1) := by decide +kernel
theorem dX9_carry_43 : decode cX9_carry 43 = .ok (.putfield 138, 3) := by decide +kernel
theorem dX9_carry_46 : decode cX9_carry 46 = .ok (.return_, 1) := by decide +kernel
theorem dX9_doLines_0 : decode cX9_doLines 0 = .ok (.aload_n 0, 1) := by decide +kernel
theorem dX9_doLines_1 : decode cX9_doLines 1 = .ok (.getfield 10, 3) := by decide +kernel
theorem dX9_doLines_4 : decode cX9_doLines 4 = .ok (.getfield 436, 3) := by decide +kernel
theorem dX9_doLines_7 : decode cX9_doLines 7 = .ok (.istore_n 1, 1) := by decide +kernel
theorem dX9_doLines_8 : decode cX9_doLines 8 = .ok (.iload_n 1, 1) := by decide +kernel
theorem dX9_doLines_9 : decode cX9_doLines 9 = .ok (.aload_n 0, 1) := by decide +kernel
theorem dX9_doLines_10 : decode cX9_doLines 10 = .ok (.getfield 10, 3) := by decide +kernel
theorem dX9_doLines_13 : decode cX9_doLines 13 = .ok (.getfield 71, 3) := by decide +kernel
theorem dX9_doLines_16 : decode cX9_doLines 16 = .ok (.if_icmp .gt 57, 3) := by decide +kernel
theorem dX9_doLines_19 : decode cX9_doLines 19 = .ok (.iconst 0, 1) := by decide +kernel
theorem dX9_doLines_20 : decode cX9_doLines 20 = .ok (.istore_n 2, 1) := by decide +kernel
theorem dX9_doLines_21 : decode cX9_doLines 21 = .ok (.iload_n 2, 1) := by decide +kernel
theorem dX9_doLines_22 : decode cX9_doLines 22 = .ok (.aload_n 0, 1) := by decide +kernel
theorem dX9_doLines_23 : decode cX9_doLines 23 = .ok (.getfield 32, 3) := by decide +kernel
theorem dX9_doLines_26 : decode cX9_doLines 26 = .ok (.invokevirtual 142, 3) := by decide +kernel
theorem dX9_doLines_29 : decode cX9_doLines 29 = .ok (.if_icmp .ge 38, 3) := by decide +kernel
theorem dX9_doLines_32 : decode cX9_doLines 32 = .ok (.aload_n 0, 1) := by decide +kernel
theorem dX9_doLines_33 : decode cX9_doLines 33 = .ok (.getfield 32, 3) := by decide +kernel
theorem dX9_doLines_36 : decode cX9_doLines 36 = .ok (.iload_n 2, 1) := by decide +kernel
theorem dX9_doLines_37 : decode cX9_doLines 37 = .ok (.invokevirtual 353, 3) := by decide +kernel
theorem dX9_doLines_40 : decode cX9_doLines 40 = .ok (.checkcast 224, 3) := by decide +kernel
theorem dX9_doLines_43 : decode cX9_doLines 43 = .ok (.astore_n 3, 1) := by decide +kernel
theorem dX9_doLines_44 : decode cX9_doLines 44 = .ok (.aload_n 3, 1) := by decide +kernel
theorem dX9_doLines_45 : decode cX9_doLines 45 = .ok (.iload_n 1, 1) := by decide +kernel
theorem dX9_doLines_46 : decode cX9_doLines 46 = .ok (.invokevirtual 439, 3) := by decide +kernel
theorem dX9_doLines_49 : decode cX9_doLines 49 = .ok (.ifCond .eq 12, 3) := by decide +kernel
theorem dX9_doLines_52 : decode cX9_doLines 52 = .ok (.aload_n 3, 1) := by decide +kernel
theorem dX9_doLines_53 : decode cX9_doLines 53 = .ok (.invokevirtual 442, 3) := by decide +kernel
theorem dX9_doLines_56 : decode cX9_doLines 56 = .ok (.aload_n 0, 1) := by decide +kernel
theorem dX9_doLines_57 : decode cX9_doLines 57 = .ok (.aload_n 3, 1) := by decide +kernel
theorem dX9_doLines_58 : decode cX9_doLines 58 = .ok (.invokevirtual 445, 3) := by decide +kernel
theorem dX9_doLines_61 : decode cX9_doLines 61 = .ok (.iinc 2 1, 3) := by decide +kernel
theorem dX9_doLines_64 : decode cX9_doLines 64 = .ok (.goto (-43), 3) := by decide +kernel
theorem dX9_doLines_67 : decode cX9_doLines 67 = .ok (.iinc 1 1, 3) := by decide +kernel
theorem dX9_doLines_70 : decode cX9_doLines 70 = .ok (.goto (-62), 3) := by decide +kernel
theorem dX9_doLines_73 : decode cX9_doLines 73 = .ok (.aload_n 0, 1) := by decide +kernel
theorem dX9_doLines_74 : decode cX9_doLines 74 = .ok (.getfield 10, 3) := by decide +kernel
theorem dX9_doLines_77 : decode cX9_doLines 77 = .ok (.aload_n 0, 1) := by decide +kernel
theorem dX9_doLines_78 : decode cX9_doLines 78 = .ok (.getfield 10, 3) := by decide +kernel
theorem dX9_doLines_81 : decode cX9_doLines 81 = .ok (.getfield 71, 3) := by decide +kernel
theorem dX9_doLines_84 : decode cX9_doLines 84 = .ok (.iconst 1, 1) := by decide +kernel
theorem dX9_doLines_85 : decode cX9_doLines 85 = .ok (.iadd, 1) := by decide +kernel
theorem dX9_doLines_86 : decode cX9_doLines 86 = .ok (.putfield 436, 3) := by decide +kernel
theorem dX9_doLines_89 : decode cX9_doLines 89 = .ok (.return_, 1) := by decide +kernel
theorem dX9_doLine_0 : decode cX9_doLine 0 = .ok (.aload_n 1, 1) := by decide +kernel
theorem dX9_doLine_1 : decode cX9_doLine 1 = .ok (.getfield 243, 3) := by decide +kernel
theorem dX9_doLine_4 : decode cX9_doLine 4 = .ok (.iconst 2, 1) := by decide +kernel
theorem dX9_doLine_5 : decode cX9_doLine 5 = .ok (.if_icmp .ne 13, 3) := by decide +kernel
theorem dX9_doLine_8 : decode cX9_doLine 8 = .ok (.aload_n 1, 1) := by decide +kernel
theorem dX9_doLine_9 : decode cX9_doLine 9 = .ok (.getfield 246, 3) := by decide +kernel
theorem dX9_doLine_12 : decode cX9_doLine 12 = .ok (.getfield 195, 3) := by decide +kernel
theorem dX9_doLine_15 : decode cX9_doLine 15 = .ok (.goto 10, 3) := by decide +kernel
theorem dX9_doLine_18 : decode cX9_doLine 18 = .ok (.aload_n 1, 1) := by decide +kernel
theorem dX9_doLine_19 : decode cX9_doLine 19 = .ok (.getfield 246, 3) := by decide +kernel
theorem dX9_doLine_22 : decode cX9_doLine 22 = .ok (.invokestatic 188, 3) := by decide +kernel
theorem dX9_doLine_25 : decode cX9_doLine 25 = .ok (.astore_n 2, 1) := by decide +kernel
theorem dX9_doLine_26 : decode cX9_doLine 26 = .ok (.aload_n 1, 1) := by decide +kernel
theorem dX9_doLine_27 : decode cX9_doLine 27 = .ok (.getfield 249, 3) := by decide +kernel
theorem dX9_doLine_30 : decode cX9_doLine 30 = .ok (.getfield 195, 3) := by decide +kernel
theorem dX9_doLine_33 : decode cX9_doLine 33 = .ok (.astore_n 3, 1) := by decide +kernel
theorem dX9_doLine_34 : decode cX9_doLine 34 = .ok (.iconst 3, 1) := by decide +kernel
theorem dX9_doLine_35 : decode cX9_doLine 35 = .ok (.istore 4, 2) := by decide +kernel
theorem dX9_doLine_37 : decode cX9_doLine 37 = .ok (.aload_n 2, 1) := by decide +kernel
theorem dX9_doLine_38 : decode cX9_doLine 38 = .ok (.ifnull 56, 3) := by decide +kernel
theorem dX9_doLine_41 : decode cX9_doLine 41 = .ok (.aload_n 3, 1) := by decide +kernel
theorem dX9_doLine_42 : decode cX9_doLine 42 = .ok (.ifnull 52, 3) := by decide +kernel
theorem dX9_doLine_45 : decode cX9_doLine 45 = .ok (.aload_n 2, 1) := by decide +kernel
theorem dX9_doLine_46 : decode cX9_doLine 46 = .ok (.aload_n 3, 1) := by decide +kernel
theorem dX9_doLine_47 : decode cX9_doLine 47 = .ok (.aload_n 1, 1) := by decide +kernel
theorem dX9_doLine_48 : decode cX9_doLine 48 = .ok (.getfield 449, 3) := by decide +kernel
theorem dX9_doLine_51 : decode cX9_doLine 51 = .ok (.i2l, 1) := by decide +kernel
theorem dX9_doLine_52 : decode cX9_doLine 52 = .ok (.invokestatic 451, 3) := by decide +kernel
theorem dX9_doLine_55 : decode cX9_doLine 55 = .ok (.istore 4, 2) := by decide +kernel
theorem dX9_doLine_57 : decode cX9_doLine 57 = .ok (.iload 4, 2) := by decide +kernel
theorem dX9_doLine_59 : decode cX9_doLine 59 = .ok (.ifCond .ne 35, 3) := by decide +kernel
theorem dX9_doLine_62 : decode cX9_doLine 62 = .ok (.aload_n 2, 1) := by decide +kernel
theorem dX9_doLine_63 : decode cX9_doLine 63 = .ok (.aload_n 3, 1) := by decide +kernel
theorem dX9_doLine_64 : decode cX9_doLine 64 = .ok (.aload_n 1, 1) := by decide +kernel
theorem dX9_doLine_65 : decode cX9_doLine 65 = .ok (.getfield 449, 3) := by decide +kernel
theorem dX9_doLine_68 : decode cX9_doLine 68 = .ok (.i2l, 1) := by decide +kernel
theorem dX9_doLine_69 : decode cX9_doLine 69 = .ok (.invokestatic 424, 3) := by decide +kernel
theorem dX9_doLine_72 : decode cX9_doLine 72 = .ok (.aload_n 1, 1) := by decide +kernel
theorem dX9_doLine_73 : decode cX9_doLine 73 = .ok (.dup, 1) := by decide +kernel
theorem dX9_doLine_74 : decode cX9_doLine 74 = .ok (.getfield 252, 3) := by decide +kernel
theorem dX9_doLine_77 : decode cX9_doLine 77 = .ok (.iconst 1, 1) := by decide +kernel
theorem dX9_doLine_78 : decode cX9_doLine 78 = .ok (.iadd, 1) := by decide +kernel
theorem dX9_doLine_79 : decode cX9_doLine 79 = .ok (.putfield 252, 3) := by decide +kernel
theorem dX9_doLine_82 : decode cX9_doLine 82 = .ok (.aload_n 1, 1) := by decide +kernel
theorem dX9_doLine_83 : decode cX9_doLine 83 = .ok (.aload_n 0, 1) := by decide +kernel
theorem dX9_doLine_84 : decode cX9_doLine 84 = .ok (.getfield 10, 3) := by decide +kernel
theorem dX9_doLine_87 : decode cX9_doLine 87 = .ok (.getfield 71, 3) := by decide +kernel
theorem dX9_doLine_90 : decode cX9_doLine 90 = .ok (.putfield 258, 3) := by decide +kernel
theorem dX9_doLine_93 : decode cX9_doLine 93 = .ok (.return_, 1) := by decide +kernel
theorem dX9_doLine_94 : decode cX9_doLine 94 = .ok (.aload_n 1, 1) := by decide +kernel
theorem dX9_doLine_95 : decode cX9_doLine 95 = .ok (.iload 4, 2) := by decide +kernel
theorem dX9_doLine_97 : decode cX9_doLine 97 = .ok (.invokevirtual 455, 3) := by decide +kernel
theorem dX9_doLine_100 : decode cX9_doLine 100 = .ok (.aload_n 0, 1) := by decide +kernel
theorem dX9_doLine_101 : decode cX9_doLine 101 = .ok (.aload_n 2, 1) := by decide +kernel
theorem dX9_doLine_102 : decode cX9_doLine 102 = .ok (.ifnonnull 10, 3) := by decide +kernel
theorem dX9_doLine_105 : decode cX9_doLine 105 = .ok (.aload_n 1, 1) := by decide +kernel
theorem dX9_doLine_106 : decode cX9_doLine 106 = .ok (.getfield 246, 3) := by decide +kernel
theorem dX9_doLine_109 : decode cX9_doLine 109 = .ok (.goto 4, 3) := by decide +kernel
theorem dX9_doLine_112 : decode cX9_doLine 112 = .ok (.aload_n 2, 1) := by decide +kernel
theorem dX9_doLine_113 : decode cX9_doLine 113 = .ok (.aload_n 1, 1) := by decide +kernel
theorem dX9_doLine_114 : decode cX9_doLine 114 = .ok (.getfield 449, 3) := by decide +kernel
theorem dX9_doLine_117 : decode cX9_doLine 117 = .ok (.i2l, 1) := by decide +kernel
theorem dX9_doLine_118 : decode cX9_doLine 118 = .ok (.iload 4, 2) := by decide +kernel
theorem dX9_doLine_120 : decode cX9_doLine 120 = .ok (.invokevirtual 458, 3) := by decide +kernel
theorem dX9_doLine_123 : decode cX9_doLine 123 = .ok (.return_, 1) := by decide +kernel
theorem dX9_whyBack_0 : decode cX9_whyBack 0 = .ok (.aload_n 0, 1) := by decide +kernel
theorem dX9_whyBack_1 : decode cX9_whyBack 1 = .ok (.getfield 159, 3) := by decide +kernel
theorem dX9_whyBack_4 : decode cX9_whyBack 4 = .ok (.iconst 1, 1) := by decide +kernel
theorem dX9_whyBack_5 : decode cX9_whyBack 5 = .ok (.if_icmp .eq 11, 3) := by decide +kernel
theorem dX9_whyBack_8 : decode cX9_whyBack 8 = .ok (.aload_n 1, 1) := by decide +kernel
theorem dX9_whyBack_9 : decode cX9_whyBack 9 = .ok (.getfield 159, 3) := by decide +kernel
theorem dX9_whyBack_12 : decode cX9_whyBack 12 = .ok (.iconst 1, 1) := by decide +kernel
theorem dX9_whyBack_13 : decode cX9_whyBack 13 = .ok (.if_icmp .ne 5, 3) := by decide +kernel
theorem dX9_whyBack_16 : decode cX9_whyBack 16 = .ok (.iconst 2, 1) := by decide +kernel
theorem dX9_whyBack_17 : decode cX9_whyBack 17 = .ok (.ireturn, 1) := by decide +kernel
theorem dX9_whyBack_18 : decode cX9_whyBack 18 = .ok (.aload_n 0, 1) := by decide +kernel
theorem dX9_whyBack_19 : decode cX9_whyBack 19 = .ok (.aload_n 1, 1) := by decide +kernel
theorem dX9_whyBack_20 : decode cX9_whyBack 20 = .ok (.if_acmp .ne 5, 3) := by decide +kernel
theorem dX9_whyBack_23 : decode cX9_whyBack 23 = .ok (.iconst 4, 1) := by decide +kernel
theorem dX9_whyBack_24 : decode cX9_whyBack 24 = .ok (.ireturn, 1) := by decide +kernel
theorem dX9_whyBack_25 : decode cX9_whyBack 25 = .ok (.aload_n 0, 1) := by decide +kernel
theorem dX9_whyBack_26 : decode cX9_whyBack 26 = .ok (.getfield 163, 3) := by decide +kernel
theorem dX9_whyBack_29 : decode cX9_whyBack 29 = .ok (.lload_n 2, 1) := by decide +kernel
theorem dX9_whyBack_30 : decode cX9_whyBack 30 = .ok (.lsub, 1) := by decide +kernel
theorem dX9_whyBack_31 : decode cX9_whyBack 31 = .ok (.aload_n 0, 1) := by decide +kernel
theorem dX9_whyBack_32 : decode cX9_whyBack 32 = .ok (.getfield 166, 3) := by decide +kernel
theorem dX9_whyBack_35 : decode cX9_whyBack 35 = .ok (.ineg, 1) := by decide +kernel
theorem dX9_whyBack_36 : decode cX9_whyBack 36 = .ok (.i2l, 1) := by decide +kernel
theorem dX9_whyBack_37 : decode cX9_whyBack 37 = .ok (.lcmp, 1) := by decide +kernel
theorem dX9_whyBack_38 : decode cX9_whyBack 38 = .ok (.ifCond .ge 7, 3) := by decide +kernel
theorem dX9_whyBack_41 : decode cX9_whyBack 41 = .ok (.iconst 1, 1) := by decide +kernel
theorem dX9_whyBack_42 : decode cX9_whyBack 42 = .ok (.goto 4, 3) := by decide +kernel
theorem dX9_whyBack_45 : decode cX9_whyBack 45 = .ok (.iconst 0, 1) := by decide +kernel
theorem dX9_whyBack_46 : decode cX9_whyBack 46 = .ok (.ireturn, 1) := by decide +kernel
theorem dX9_comeBack_0 : decode cX9_comeBack 0 = .ok (.iload 4, 2) := by decide +kernel
theorem dX9_comeBack_2 : decode cX9_comeBack 2 = .ok (.iconst 1, 1) := by decide +kernel
theorem dX9_comeBack_3 : decode cX9_comeBack 3 = .ok (.if_icmp .ne 20, 3) := by decide +kernel
theorem dX9_comeBack_6 : decode cX9_comeBack 6 = .ok (.aload_n 1, 1) := by decide +kernel
theorem dX9_comeBack_7 : decode cX9_comeBack 7 = .ok (.dup, 1) := by decide +kernel
theorem dX9_comeBack_8 : decode cX9_comeBack 8 = .ok (.getfield 163, 3) := by decide +kernel
theorem dX9_comeBack_11 : decode cX9_comeBack 11 = .ok (.aload_n 1, 1) := by decide +kernel
theorem dX9_comeBack_12 : decode cX9_comeBack 12 = .ok (.getfield 176, 3) := by decide +kernel
theorem dX9_comeBack_15 : decode cX9_comeBack 15 = .ok (.getfield 462, 3) := by decide +kernel
theorem dX9_comeBack_18 : decode cX9_comeBack 18 = .ok (.i2l, 1) := by decide +kernel
theorem dX9_comeBack_19 : decode cX9_comeBack 19 = .ok (.lsub, 1) := by decide +kernel
theorem dX9_comeBack_20 : decode cX9_comeBack 20 = .ok (.putfield 163, 3) := by decide +kernel
theorem dX9_comeBack_23 : decode cX9_comeBack 23 = .ok (.aload_n 0, 1) := by decide +kernel
theorem dX9_comeBack_24 : decode cX9_comeBack 24 = .ok (.aload_n 1, 1) := by decide +kernel
theorem dX9_comeBack_25 : decode cX9_comeBack 25 = .ok (.invokevirtual 465, 3) := by decide +kernel
theorem dX9_comeBack_28 : decode cX9_comeBack 28 = .ok (.astore 5, 2) := by decide +kernel
theorem dX9_comeBack_30 : decode cX9_comeBack 30 = .ok (.aload 5, 2) := by decide +kernel
theorem dX9_comeBack_32 : decode cX9_comeBack 32 = .ok (.ifnonnull 4, 3) := by decide +kernel
theorem dX9_comeBack_35 : decode cX9_comeBack 35 = .ok (.return_, 1) := by decide +kernel
theorem dX9_comeBack_36 : decode cX9_comeBack 36 = .ok (.lconst 0, 1) := by decide +kernel
theorem dX9_comeBack_37 : decode cX9_comeBack 37 = .ok (.aload_n 0, 1) := by decide +kernel
theorem dX9_comeBack_38 : decode cX9_comeBack 38 = .ok (.aload_n 1, 1) := by decide +kernel
theorem dX9_comeBack_39 : decode cX9_comeBack 39 = .ok (.getfield 176, 3) := by decide +kernel
theorem dX9_comeBack_42 : decode cX9_comeBack 42 = .ok (.lload_n 2, 1) := by decide +kernel
theorem dX9_comeBack_43 : decode cX9_comeBack 43 = .ok (.iload 4, 2) := by decide +kernel
theorem dX9_comeBack_45 : decode cX9_comeBack 45 = .ok (.invokevirtual 469, 3) := by decide +kernel
theorem dX9_comeBack_48 : decode cX9_comeBack 48 = .ok (.invokestatic 473, 3) := by decide +kernel
theorem dX9_comeBack_51 : decode cX9_comeBack 51 = .ok (.lstore 6, 2) := by decide +kernel
theorem dX9_comeBack_53 : decode cX9_comeBack 53 = .ok (.aload_n 1, 1) := by decide +kernel
theorem dX9_comeBack_54 : decode cX9_comeBack 54 = .ok (.dup, 1) := by decide +kernel
theorem dX9_comeBack_55 : decode cX9_comeBack 55 = .ok (.getfield 163, 3) := by decide +kernel
theorem dX9_comeBack_58 : decode cX9_comeBack 58 = .ok (.lload 6, 2) := by decide +kernel
theorem dX9_comeBack_60 : decode cX9_comeBack 60 = .ok (.ladd, 1) := by decide +kernel
theorem dX9_comeBack_61 : decode cX9_comeBack 61 = .ok (.putfield 163, 3) := by decide +kernel
theorem dX9_comeBack_64 : decode cX9_comeBack 64 = .ok (.aload_n 1, 1) := by decide +kernel
theorem dX9_comeBack_65 : decode cX9_comeBack 65 = .ok (.ldc2_w 476, 3) := by decide +kernel
theorem dX9_comeBack_68 : decode cX9_comeBack 68 = .ok (.aload_n 1, 1) := by decide +kernel
theorem dX9_comeBack_69 : decode cX9_comeBack 69 = .ok (.getfield 192, 3) := by decide +kernel
theorem dX9_comeBack_72 : decode cX9_comeBack 72 = .ok (.i2l, 1) := by decide +kernel
theorem dX9_comeBack_73 : decode cX9_comeBack 73 = .ok (.lload 6, 2) := by decide +kernel
theorem dX9_comeBack_75 : decode cX9_comeBack 75 = .ok (.ladd, 1) := by decide +kernel
theorem dX9_comeBack_76 : decode cX9_comeBack 76 = .ok (.invokestatic 478, 3) := by decide +kernel
theorem dX9_comeBack_79 : decode cX9_comeBack 79 = .ok (.l2i, 1) := by decide +kernel
theorem dX9_comeBack_80 : decode cX9_comeBack 80 = .ok (.putfield 192, 3) := by decide +kernel
theorem dX9_comeBack_83 : decode cX9_comeBack 83 = .ok (.aload 5, 2) := by decide +kernel
theorem dX9_comeBack_85 : decode cX9_comeBack 85 = .ok (.ldc2_w 476, 3) := by decide +kernel
theorem dX9_comeBack_88 : decode cX9_comeBack 88 = .ok (.aload 5, 2) := by decide +kernel
theorem dX9_comeBack_90 : decode cX9_comeBack 90 = .ok (.getfield 131, 3) := by decide +kernel
theorem dX9_comeBack_93 : decode cX9_comeBack 93 = .ok (.i2l, 1) := by decide +kernel
theorem dX9_comeBack_94 : decode cX9_comeBack 94 = .ok (.lload 6, 2) := by decide +kernel
theorem dX9_comeBack_96 : decode cX9_comeBack 96 = .ok (.ladd, 1) := by decide +kernel
theorem dX9_comeBack_97 : decode cX9_comeBack 97 = .ok (.invokestatic 478, 3) := by decide +kernel
theorem dX9_comeBack_100 : decode cX9_comeBack 100 = .ok (.l2i, 1) := by decide +kernel
theorem dX9_comeBack_101 : decode cX9_comeBack 101 = .ok (.putfield 131, 3) := by decide +kernel
theorem dX9_comeBack_104 : decode cX9_comeBack 104 = .ok (.return_, 1) := by decide +kernel
theorem dX9_bankAtFault_0 : decode cX9_bankAtFault 0 = .ok (.iconst 0, 1) := by decide +kernel
theorem dX9_bankAtFault_1 : decode cX9_bankAtFault 1 = .ok (.istore_n 2, 1) := by decide +kernel
theorem dX9_bankAtFault_2 : decode cX9_bankAtFault 2 = .ok (.iload_n 2, 1) := by decide +kernel
theorem dX9_bankAtFault_3 : decode cX9_bankAtFault 3 = .ok (.aload_n 0, 1) := by decide +kernel
theorem dX9_bankAtFault_4 : decode cX9_bankAtFault 4 = .ok (.getfield 35, 3) := by decide +kernel
theorem dX9_bankAtFault_7 : decode cX9_bankAtFault 7 = .ok (.invokevirtual 142, 3) := by decide +kernel
theorem dX9_bankAtFault_10 : decode cX9_bankAtFault 10 = .ok (.if_icmp .ge 41, 3) := by decide +kernel
theorem dX9_bankAtFault_13 : decode cX9_bankAtFault 13 = .ok (.aload_n 0, 1) := by decide +kernel
theorem dX9_bankAtFault_14 : decode cX9_bankAtFault 14 = .ok (.getfield 35, 3) := by decide +kernel
theorem dX9_bankAtFault_17 : decode cX9_bankAtFault 17 = .ok (.iload_n 2, 1) := by decide +kernel
theorem dX9_bankAtFault_18 : decode cX9_bankAtFault 18 = .ok (.invokevirtual 353, 3) := by decide +kernel
theorem dX9_bankAtFault_21 : decode cX9_bankAtFault 21 = .ok (.checkcast 271, 3) := by decide +kernel
theorem dX9_bankAtFault_24 : decode cX9_bankAtFault 24 = .ok (.astore_n 3, 1) := by decide +kernel
theorem dX9_bankAtFault_25 : decode cX9_bankAtFault 25 = .ok (.aload_n 3, 1) := by decide +kernel
theorem dX9_bankAtFault_26 : decode cX9_bankAtFault 26 = .ok (.getfield 305, 3) := by decide +kernel
theorem dX9_bankAtFault_29 : decode cX9_bankAtFault 29 = .ok (.ifCond .le 16, 3) := by decide +kernel
theorem dX9_bankAtFault_32 : decode cX9_bankAtFault 32 = .ok (.aload_n 3, 1) := by decide +kernel
theorem dX9_bankAtFault_33 : decode cX9_bankAtFault 33 = .ok (.aload_n 1, 1) := by decide +kernel
theorem dX9_bankAtFault_34 : decode cX9_bankAtFault 34 = .ok (.invokevirtual 362, 3) := by decide +kernel
theorem dX9_bankAtFault_37 : decode cX9_bankAtFault 37 = .ok (.ifCond .eq 8, 3) := by decide +kernel
theorem dX9_bankAtFault_40 : decode cX9_bankAtFault 40 = .ok (.aload_n 3, 1) := by decide +kernel
theorem dX9_bankAtFault_41 : decode cX9_bankAtFault 41 = .ok (.getfield 308, 3) := by decide +kernel
theorem dX9_bankAtFault_44 : decode cX9_bankAtFault 44 = .ok (.areturn, 1) := by decide +kernel
theorem dX9_bankAtFault_45 : decode cX9_bankAtFault 45 = .ok (.iinc 2 1, 3) := by decide +kernel
theorem dX9_bankAtFault_48 : decode cX9_bankAtFault 48 = .ok (.goto (-46), 3) := by decide +kernel
theorem dX9_bankAtFault_51 : decode cX9_bankAtFault 51 = .ok (.aconst_null, 1) := by decide +kernel
theorem dX9_bankAtFault_52 : decode cX9_bankAtFault 52 = .ok (.areturn, 1) := by decide +kernel
theorem dX9_worthOfGood_0 : decode cX9_worthOfGood 0 = .ok (.aload_n 0, 1) := by decide +kernel
theorem dX9_worthOfGood_1 : decode cX9_worthOfGood 1 = .ok (.getfield 41, 3) := by decide +kernel
theorem dX9_worthOfGood_4 : decode cX9_worthOfGood 4 = .ok (.iconst 3, 1) := by decide +kernel
theorem dX9_worthOfGood_5 : decode cX9_worthOfGood 5 = .ok (.aload_n 0, 1) := by decide +kernel
theorem dX9_worthOfGood_6 : decode cX9_worthOfGood 6 = .ok (.getfield 10, 3) := by decide +kernel
theorem dX9_worthOfGood_9 : decode cX9_worthOfGood 9 = .ok (.getfield 71, 3) := by decide +kernel
theorem dX9_worthOfGood_12 : decode cX9_worthOfGood 12 = .ok (.invokevirtual 365, 3) := by decide +kernel
theorem dX9_worthOfGood_15 : decode cX9_worthOfGood 15 = .ok (.astore 5, 2) := by decide +kernel
theorem dX9_worthOfGood_17 : decode cX9_worthOfGood 17 = .ok (.aload 5, 2) := by decide +kernel
theorem dX9_worthOfGood_19 : decode cX9_worthOfGood 19 = .ok (.ifnonnull 9, 3) := by decide +kernel
theorem dX9_worthOfGood_22 : decode cX9_worthOfGood 22 = .ok (.aload_n 1, 1) := by decide +kernel
theorem dX9_worthOfGood_23 : decode cX9_worthOfGood 23 = .ok (.getfield 462, 3) := by decide +kernel
theorem dX9_worthOfGood_26 : decode cX9_worthOfGood 26 = .ok (.i2l, 1) := by decide +kernel
theorem dX9_worthOfGood_27 : decode cX9_worthOfGood 27 = .ok (.lreturn, 1) := by decide +kernel
theorem dX9_worthOfGood_28 : decode cX9_worthOfGood 28 = .ok (.aload_n 0, 1) := by decide +kernel
theorem dX9_worthOfGood_29 : decode cX9_worthOfGood 29 = .ok (.getfield 41, 3) := by decide +kernel
theorem dX9_worthOfGood_32 : decode cX9_worthOfGood 32 = .ok (.invokevirtual 373, 3) := by decide +kernel
theorem dX9_worthOfGood_35 : decode cX9_worthOfGood 35 = .ok (.astore 6, 2) := by decide +kernel
theorem dX9_worthOfGood_37 : decode cX9_worthOfGood 37 = .ok (.aload 6, 2) := by decide +kernel
theorem dX9_worthOfGood_39 : decode cX9_worthOfGood 39 = .ok (.iconst 0, 1) := by decide +kernel
theorem dX9_worthOfGood_40 : decode cX9_worthOfGood 40 = .ok (.aload_n 1, 1) := by decide +kernel
theorem dX9_worthOfGood_41 : decode cX9_worthOfGood 41 = .ok (.getfield 180, 3) := by decide +kernel
theorem dX9_worthOfGood_44 : decode cX9_worthOfGood 44 = .ok (.i2l, 1) := by decide +kernel
theorem dX9_worthOfGood_45 : decode cX9_worthOfGood 45 = .ok (.lastore, 1) := by decide +kernel
theorem dX9_worthOfGood_46 : decode cX9_worthOfGood 46 = .ok (.aload 6, 2) := by decide +kernel
theorem dX9_worthOfGood_48 : decode cX9_worthOfGood 48 = .ok (.bipush 6, 2) := by decide +kernel
theorem dX9_worthOfGood_50 : decode cX9_worthOfGood 50 = .ok (.lload_n 2, 1) := by decide +kernel
theorem dX9_worthOfGood_51 : decode cX9_worthOfGood 51 = .ok (.lastore, 1) := by decide +kernel
theorem dX9_worthOfGood_52 : decode cX9_worthOfGood 52 = .ok (.aload 6, 2) := by decide +kernel
theorem dX9_worthOfGood_54 : decode cX9_worthOfGood 54 = .ok (.bipush 7, 2) := by decide +kernel
theorem dX9_worthOfGood_56 : decode cX9_worthOfGood 56 = .ok (.aload_n 1, 1) := by decide +kernel
theorem dX9_worthOfGood_57 : decode cX9_worthOfGood 57 = .ok (.getfield 462, 3) := by decide +kernel
theorem dX9_worthOfGood_60 : decode cX9_worthOfGood 60 = .ok (.i2l, 1) := by decide +kernel
theorem dX9_worthOfGood_61 : decode cX9_worthOfGood 61 = .ok (.lastore, 1) := by decide +kernel
theorem dX9_worthOfGood_62 : decode cX9_worthOfGood 62 = .ok (.aload 6, 2) := by decide +kernel
theorem dX9_worthOfGood_64 : decode cX9_worthOfGood 64 = .ok (.bipush 8, 2) := by decide +kernel
theorem dX9_worthOfGood_66 : decode cX9_worthOfGood 66 = .ok (.iload 4, 2) := by decide +kernel
theorem dX9_worthOfGood_68 : decode cX9_worthOfGood 68 = .ok (.i2l, 1) := by decide +kernel
theorem dX9_worthOfGood_69 : decode cX9_worthOfGood 69 = .ok (.lastore, 1) := by decide +kernel
theorem dX9_worthOfGood_70 : decode cX9_worthOfGood 70 = .ok (.aload 5, 2) := by decide +kernel
theorem dX9_worthOfGood_72 : decode cX9_worthOfGood 72 = .ok (.aload 6, 2) := by decide +kernel
theorem dX9_worthOfGood_74 : decode cX9_worthOfGood 74 = .ok (.aload_n 0, 1) := by decide +kernel
theorem dX9_worthOfGood_75 : decode cX9_worthOfGood 75 = .ok (.getfield 41, 3) := by decide +kernel
theorem dX9_worthOfGood_78 : decode cX9_worthOfGood 78 = .ok (.getfield 377, 3) := by decide +kernel
theorem dX9_worthOfGood_81 : decode cX9_worthOfGood 81 = .ok (.invokevirtual 380, 3) := by decide +kernel
theorem dX9_worthOfGood_84 : decode cX9_worthOfGood 84 = .ok (.lreturn, 1) := by decide +kernel
theorem dX10_init_0 : decode cX10_init 0 = .ok (.aload_n 0, 1) := by decide +kernel
theorem dX10_init_1 : decode cX10_init 1 = .ok (.invokespecial 1, 3) := by decide +kernel
theorem dX10_init_4 : decode cX10_init 4 = .ok (.aload_n 0, 1) := by decide +kernel
theorem dX10_init_5 : decode cX10_init 5 = .ok (.bipush 7, 2) := by decide +kernel
theorem dX10_init_7 : decode cX10_init 7 = .ok (.newarray .int, 2) := by decide +kernel
theorem dX10_init_9 : decode cX10_init 9 = .ok (.putfield 7, 3) := by decide +kernel
theorem dX10_init_12 : decode cX10_init 12 = .ok (.aload_n 0, 1) := by decide +kernel
theorem dX10_init_13 : decode cX10_init 13 = .ok (.bipush 20, 2) := by decide +kernel
theorem dX10_init_15 : decode cX10_init 15 = .ok (.newarray .int, 2) := by decide +kernel
theorem dX10_init_17 : decode cX10_init 17 = .ok (.putfield 13, 3) := by decide +kernel
theorem dX10_init_20 : decode cX10_init 20 = .ok (.aload_n 0, 1) := by decide +kernel
theorem dX10_init_21 : decode cX10_init 21 = .ok (.bipush 60, 2) := by decide +kernel
theorem dX10_init_23 : decode cX10_init 23 = .ok (.newarray .int, 2) := by decide +kernel
theorem dX10_init_25 : decode cX10_init 25 = .ok (.putfield 16, 3) := by decide +kernel
theorem dX10_init_28 : decode cX10_init 28 = .ok (.aload_n 0, 1) := by decide +kernel
theorem dX10_init_29 : decode cX10_init 29 = .ok (.bipush 60, 2) := by decide +kernel
theorem dX10_init_31 : decode cX10_init 31 = .ok (.newarray .int, 2) := by decide +kernel
theorem dX10_init_33 : decode cX10_init 33 = .ok (.putfield 19, 3) := by decide +kernel
theorem dX10_init_36 : decode cX10_init 36 = .ok (.aload_n 0, 1) := by decide +kernel
theorem dX10_init_37 : decode cX10_init 37 = .ok (.bipush 8, 2) := by decide +kernel
theorem dX10_init_39 : decode cX10_init 39 = .ok (.newarray .int, 2) := by decide +kernel
theorem dX10_init_41 : decode cX10_init 41 = .ok (.putfield 22, 3) := by decide +kernel
theorem dX10_init_44 : decode cX10_init 44 = .ok (.aload_n 0, 1) := by decide +kernel
theorem dX10_init_45 : decode cX10_init 45 = .ok (.bipush 8, 2) := by decide +kernel
theorem dX10_init_47 : decode cX10_init 47 = .ok (.newarray .int, 2) := by decide +kernel
theorem dX10_init_49 : decode cX10_init 49 = .ok (.putfield 25, 3) := by decide +kernel
theorem dX10_init_52 : decode cX10_init 52 = .ok (.aload_n 0, 1) := by decide +kernel
theorem dX10_init_53 : decode cX10_init 53 = .ok (.bipush 8, 2) := by decide +kernel
theorem dX10_init_55 : decode cX10_init 55 = .ok (.newarray .int, 2) := by decide +kernel
theorem dX10_init_57 : decode cX10_init 57 = .ok (.putfield 28, 3) := by decide +kernel
theorem dX10_init_60 : decode cX10_init 60 = .ok (.aload_n 0, 1) := by decide +kernel
theorem dX10_init_61 : decode cX10_init 61 = .ok (.bipush 8, 2) := by decide +kernel
theorem dX10_init_63 : decode cX10_init 63 = .ok (.newarray .int, 2) := by decide +kernel
theorem dX10_init_65 : decode cX10_init 65 = .ok (.putfield 31, 3) := by decide +kernel
theorem dX10_init_68 : decode cX10_init 68 = .ok (.aload_n 0, 1) := by decide +kernel
theorem dX10_init_69 : decode cX10_init 69 = .ok (.bipush 8, 2) := by decide +kernel
theorem dX10_init_71 : decode cX10_init 71 = .ok (.newarray .long, 2) := by decide +kernel
theorem dX10_init_73 : decode cX10_init 73 = .ok (.putfield 34, 3) := by decide +kernel
theorem dX10_init_76 : decode cX10_init 76 = .ok (.aload_n 0, 1) := by decide +kernel
theorem dX10_init_77 : decode cX10_init 77 = .ok (.bipush 8, 2) := by decide +kernel
theorem dX10_init_79 : decode cX10_init 79 = .ok (.newarray .long, 2) := by decide +kernel
theorem dX10_init_81 : decode cX10_init 81 = .ok (.putfield 38, 3) := by decide +kernel
theorem dX10_init_84 : decode cX10_init 84 = .ok (.aload_n 0, 1) := by decide +kernel
theorem dX10_init_85 : decode cX10_init 85 = .ok (.bipush 40, 2) := by decide +kernel
theorem dX10_init_87 : decode cX10_init 87 = .ok (.newarray .int, 2) := by decide +kernel
theorem dX10_init_89 : decode cX10_init 89 = .ok (.putfield 41, 3) := by decide +kernel
theorem dX10_init_92 : decode cX10_init 92 = .ok (.aload_n 0, 1) := by decide +kernel
theorem dX10_init_93 : decode cX10_init 93 = .ok (.bipush 40, 2) := by decide +kernel
theorem dX10_init_95 : decode cX10_init 95 = .ok (.newarray .int, 2) := by decide +kernel
theorem dX10_init_97 : decode cX10_init 97 = .ok (.putfield 44, 3) := by decide +kernel
theorem dX10_init_100 : decode cX10_init 100 = .ok (.aload_n 0, 1) := by decide +kernel
theorem dX10_init_101 : decode cX10_init 101 = .ok (.bipush 40, 2) := by decide +kernel
theorem dX10_init_103 : decode cX10_init 103 = .ok (.newarray .int, 2) := by decide +kernel
