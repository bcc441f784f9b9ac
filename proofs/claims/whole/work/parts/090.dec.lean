theorem dX9_init_0 : decode cX9_init 0 = .ok (.aload_n 0, 1) := by decide +kernel
theorem dX9_init_1 : decode cX9_init 1 = .ok (.invokespecial 1, 3) := by decide +kernel
theorem dX9_init_4 : decode cX9_init 4 = .ok (.aload_n 0, 1) := by decide +kernel
theorem dX9_init_5 : decode cX9_init 5 = .ok (.new 7, 3) := by decide +kernel
theorem dX9_init_8 : decode cX9_init 8 = .ok (.dup, 1) := by decide +kernel
theorem dX9_init_9 : decode cX9_init 9 = .ok (.invokespecial 9, 3) := by decide +kernel
theorem dX9_init_12 : decode cX9_init 12 = .ok (.putfield 10, 3) := by decide +kernel
theorem dX9_init_15 : decode cX9_init 15 = .ok (.aload_n 0, 1) := by decide +kernel
theorem dX9_init_16 : decode cX9_init 16 = .ok (.bipush 8, 2) := by decide +kernel
theorem dX9_init_18 : decode cX9_init 18 = .ok (.anewarray 16, 3) := by decide +kernel
theorem dX9_init_21 : decode cX9_init 21 = .ok (.putfield 18, 3) := by decide +kernel
theorem dX9_init_24 : decode cX9_init 24 = .ok (.iconst 0, 1) := by decide +kernel
theorem dX9_init_25 : decode cX9_init 25 = .ok (.istore_n 1, 1) := by decide +kernel
theorem dX9_init_26 : decode cX9_init 26 = .ok (.iload_n 1, 1) := by decide +kernel
theorem dX9_init_27 : decode cX9_init 27 = .ok (.bipush 8, 2) := by decide +kernel
theorem dX9_init_29 : decode cX9_init 29 = .ok (.if_icmp .ge 23, 3) := by decide +kernel
theorem dX9_init_32 : decode cX9_init 32 = .ok (.aload_n 0, 1) := by decide +kernel
theorem dX9_init_33 : decode cX9_init 33 = .ok (.getfield 18, 3) := by decide +kernel
theorem dX9_init_36 : decode cX9_init 36 = .ok (.iload_n 1, 1) := by decide +kernel
theorem dX9_init_37 : decode cX9_init 37 = .ok (.new 16, 3) := by decide +kernel
theorem dX9_init_40 : decode cX9_init 40 = .ok (.dup, 1) := by decide +kernel
theorem dX9_init_41 : decode cX9_init 41 = .ok (.iload_n 1, 1) := by decide +kernel
theorem dX9_init_42 : decode cX9_init 42 = .ok (.invokespecial 22, 3) := by decide +kernel
theorem dX9_init_45 : decode cX9_init 45 = .ok (.aastore, 1) := by decide +kernel
theorem dX9_init_46 : decode cX9_init 46 = .ok (.iinc 1 1, 3) := by decide +kernel
theorem dX9_init_49 : decode cX9_init 49 = .ok (.goto (-23), 3) := by decide +kernel
theorem dX9_init_52 : decode cX9_init 52 = .ok (.aload_n 0, 1) := by decide +kernel
theorem dX9_init_53 : decode cX9_init 53 = .ok (.new 25, 3) := by decide +kernel
theorem dX9_init_56 : decode cX9_init 56 = .ok (.dup, 1) := by decide +kernel
theorem dX9_init_57 : decode cX9_init 57 = .ok (.invokespecial 27, 3) := by decide +kernel
theorem dX9_init_60 : decode cX9_init 60 = .ok (.putfield 28, 3) := by decide +kernel
theorem dX9_init_63 : decode cX9_init 63 = .ok (.aload_n 0, 1) := by decide +kernel
theorem dX9_init_64 : decode cX9_init 64 = .ok (.new 25, 3) := by decide +kernel
theorem dX9_init_67 : decode cX9_init 67 = .ok (.dup, 1) := by decide +kernel
theorem dX9_init_68 : decode cX9_init 68 = .ok (.invokespecial 27, 3) := by decide +kernel
theorem dX9_init_71 : decode cX9_init 71 = .ok (.putfield 32, 3) := by decide +kernel
theorem dX9_init_74 : decode cX9_init 74 = .ok (.aload_n 0, 1) := by decide +kernel
theorem dX9_init_75 : decode cX9_init 75 = .ok (.new 25, 3) := by decide +kernel
theorem dX9_init_78 : decode cX9_init 78 = .ok (.dup, 1) := by decide +kernel
theorem dX9_init_79 : decode cX9_init 79 = .ok (.invokespecial 27, 3) := by decide +kernel
theorem dX9_init_82 : decode cX9_init 82 = .ok (.putfield 35, 3) := by decide +kernel
theorem dX9_init_85 : decode cX9_init 85 = .ok (.aload_n 0, 1) := by decide +kernel
theorem dX9_init_86 : decode cX9_init 86 = .ok (.new 38, 3) := by decide +kernel
theorem dX9_init_89 : decode cX9_init 89 = .ok (.dup, 1) := by decide +kernel
theorem dX9_init_90 : decode cX9_init 90 = .ok (.invokespecial 40, 3) := by decide +kernel
theorem dX9_init_93 : decode cX9_init 93 = .ok (.putfield 41, 3) := by decide +kernel
theorem dX9_init_96 : decode cX9_init 96 = .ok (.aload_n 0, 1) := by decide +kernel
theorem dX9_init_97 : decode cX9_init 97 = .ok (.new 45, 3) := by decide +kernel
theorem dX9_init_100 : decode cX9_init 100 = .ok (.dup, 1) := by decide +kernel
theorem dX9_init_101 : decode cX9_init 101 = .ok (.invokespecial 47, 3) := by decide +kernel
theorem dX9_init_104 : decode cX9_init 104 = .ok (.putfield 48, 3) := by decide +kernel
theorem dX9_init_107 : decode cX9_init 107 = .ok (.aload_n 0, 1) := by decide +kernel
theorem dX9_init_108 : decode cX9_init 108 = .ok (.new 52, 3) := by decide +kernel
theorem dX9_init_111 : decode cX9_init 111 = .ok (.dup, 1) := by decide +kernel
theorem dX9_init_112 : decode cX9_init 112 = .ok (.invokespecial 54, 3) := by decide +kernel
theorem dX9_init_115 : decode cX9_init 115 = .ok (.putfield 55, 3) := by decide +kernel
theorem dX9_init_118 : decode cX9_init 118 = .ok (.aload_n 0, 1) := by decide +kernel
theorem dX9_init_119 : decode cX9_init 119 = .ok (.bipush 8, 2) := by decide +kernel
theorem dX9_init_121 : decode cX9_init 121 = .ok (.newarray .long, 2) := by decide +kernel
theorem dX9_init_123 : decode cX9_init 123 = .ok (.putfield 59, 3) := by decide +kernel
theorem dX9_init_126 : decode cX9_init 126 = .ok (.aload_n 0, 1) := by decide +kernel
theorem dX9_init_127 : decode cX9_init 127 = .ok (.iconst 0, 1) := by decide +kernel
theorem dX9_init_128 : decode cX9_init 128 = .ok (.putfield 63, 3) := by decide +kernel
theorem dX9_init_131 : decode cX9_init 131 = .ok (.aload_n 0, 1) := by decide +kernel
theorem dX9_init_132 : decode cX9_init 132 = .ok (.bipush 7, 2) := by decide +kernel
theorem dX9_init_134 : decode cX9_init 134 = .ok (.newarray .int, 2) := by decide +kernel
theorem dX9_init_136 : decode cX9_init 136 = .ok (.putfield 67, 3) := by decide +kernel
theorem dX9_init_139 : decode cX9_init 139 = .ok (.return_, 1) := by decide +kernel
theorem dX9_days_0 : decode cX9_days 0 = .ok (.iload_n 1, 1) := by decide +kernel
theorem dX9_days_1 : decode cX9_days 1 = .ok (.iconst 1, 1) := by decide +kernel
theorem dX9_days_2 : decode cX9_days 2 = .ok (.sipush 1500, 3) := by decide +kernel
theorem dX9_days_5 : decode cX9_days 5 = .ok (.aload_n 0, 1) := by decide +kernel
theorem dX9_days_6 : decode cX9_days 6 = .ok (.getfield 10, 3) := by decide +kernel
theorem dX9_days_9 : decode cX9_days 9 = .ok (.getfield 71, 3) := by decide +kernel
theorem dX9_days_12 : decode cX9_days 12 = .ok (.isub, 1) := by decide +kernel
theorem dX9_days_13 : decode cX9_days 13 = .ok (.invokestatic 74, 3) := by decide +kernel
theorem dX9_days_16 : decode cX9_days 16 = .ok (.istore_n 2, 1) := by decide +kernel
theorem dX9_days_17 : decode cX9_days 17 = .ok (.iload_n 2, 1) := by decide +kernel
theorem dX9_days_18 : decode cX9_days 18 = .ok (.ifCond .eq 9, 3) := by decide +kernel
theorem dX9_days_21 : decode cX9_days 21 = .ok (.aload_n 0, 1) := by decide +kernel
theorem dX9_days_22 : decode cX9_days 22 = .ok (.iload_n 2, 1) := by decide +kernel
theorem dX9_days_23 : decode cX9_days 23 = .ok (.invokevirtual 78, 3) := by decide +kernel
theorem dX9_days_26 : decode cX9_days 26 = .ok (.ireturn, 1) := by decide +kernel
theorem dX9_days_27 : decode cX9_days 27 = .ok (.iconst 0, 1) := by decide +kernel
theorem dX9_days_28 : decode cX9_days 28 = .ok (.istore_n 3, 1) := by decide +kernel
theorem dX9_days_29 : decode cX9_days 29 = .ok (.iload_n 3, 1) := by decide +kernel
theorem dX9_days_30 : decode cX9_days 30 = .ok (.iload_n 1, 1) := by decide +kernel
theorem dX9_days_31 : decode cX9_days 31 = .ok (.if_icmp .ge 66, 3) := by decide +kernel
theorem dX9_days_34 : decode cX9_days 34 = .ok (.aload_n 0, 1) := by decide +kernel
theorem dX9_days_35 : decode cX9_days 35 = .ok (.getfield 10, 3) := by decide +kernel
theorem dX9_days_38 : decode cX9_days 38 = .ok (.aload_n 0, 1) := by decide +kernel
theorem dX9_days_39 : decode cX9_days 39 = .ok (.getfield 10, 3) := by decide +kernel
theorem dX9_days_42 : decode cX9_days 42 = .ok (.getfield 71, 3) := by decide +kernel
theorem dX9_days_45 : decode cX9_days 45 = .ok (.invokevirtual 82, 3) := by decide +kernel
theorem dX9_days_48 : decode cX9_days 48 = .ok (.ifCond .eq 26, 3) := by decide +kernel
theorem dX9_days_51 : decode cX9_days 51 = .ok (.aload_n 0, 1) := by decide +kernel
theorem dX9_days_52 : decode cX9_days 52 = .ok (.invokevirtual 86, 3) := by decide +kernel
theorem dX9_days_55 : decode cX9_days 55 = .ok (.aload_n 0, 1) := by decide +kernel
theorem dX9_days_56 : decode cX9_days 56 = .ok (.invokevirtual 89, 3) := by decide +kernel
theorem dX9_days_59 : decode cX9_days 59 = .ok (.aload_n 0, 1) := by decide +kernel
theorem dX9_days_60 : decode cX9_days 60 = .ok (.aload_n 0, 1) := by decide +kernel
theorem dX9_days_61 : decode cX9_days 61 = .ok (.getfield 10, 3) := by decide +kernel
theorem dX9_days_64 : decode cX9_days 64 = .ok (.getfield 71, 3) := by decide +kernel
theorem dX9_days_67 : decode cX9_days 67 = .ok (.invokevirtual 92, 3) := by decide +kernel
theorem dX9_days_70 : decode cX9_days 70 = .ok (.aload_n 0, 1) := by decide +kernel
theorem dX9_days_71 : decode cX9_days 71 = .ok (.invokevirtual 95, 3) := by decide +kernel
theorem dX9_days_74 : decode cX9_days 74 = .ok (.aload_n 0, 1) := by decide +kernel
theorem dX9_days_75 : decode cX9_days 75 = .ok (.invokevirtual 98, 3) := by decide +kernel
theorem dX9_days_78 : decode cX9_days 78 = .ok (.aload_n 0, 1) := by decide +kernel
theorem dX9_days_79 : decode cX9_days 79 = .ok (.getfield 10, 3) := by decide +kernel
theorem dX9_days_82 : decode cX9_days 82 = .ok (.dup, 1) := by decide +kernel
theorem dX9_days_83 : decode cX9_days 83 = .ok (.getfield 71, 3) := by decide +kernel
theorem dX9_days_86 : decode cX9_days 86 = .ok (.iconst 1, 1) := by decide +kernel
theorem dX9_days_87 : decode cX9_days 87 = .ok (.iadd, 1) := by decide +kernel
theorem dX9_days_88 : decode cX9_days 88 = .ok (.putfield 71, 3) := by decide +kernel
theorem dX9_days_91 : decode cX9_days 91 = .ok (.iinc 3 1, 3) := by decide +kernel
theorem dX9_days_94 : decode cX9_days 94 = .ok (.goto (-65), 3) := by decide +kernel
theorem dX9_days_97 : decode cX9_days 97 = .ok (.aload_n 0, 1) := by decide +kernel
theorem dX9_days_98 : decode cX9_days 98 = .ok (.getfield 10, 3) := by decide +kernel
theorem dX9_days_101 : decode cX9_days 101 = .ok (.getfield 71, 3) := by decide +kernel
theorem dX9_days_104 : decode cX9_days 104 = .ok (.ireturn, 1) := by decide +kernel
theorem dX9_holiday_0 : decode cX9_holiday 0 = .ok (.iload_n 1, 1) := by decide +kernel
theorem dX9_holiday_1 : decode cX9_holiday 1 = .ok (.aload_n 0, 1) := by decide +kernel
theorem dX9_holiday_2 : decode cX9_holiday 2 = .ok (.getfield 10, 3) := by decide +kernel
theorem dX9_holiday_5 : decode cX9_holiday 5 = .ok (.getfield 71, 3) := by decide +kernel
theorem dX9_holiday_8 : decode cX9_holiday 8 = .ok (.if_icmp .ge 10, 3) := by decide +kernel
theorem dX9_holiday_11 : decode cX9_holiday 11 = .ok (.aload_n 0, 1) := by decide +kernel
theorem dX9_holiday_12 : decode cX9_holiday 12 = .ok (.bipush (-4), 2) := by decide +kernel
theorem dX9_holiday_14 : decode cX9_holiday 14 = .ok (.invokevirtual 78, 3) := by decide +kernel
theorem dX9_holiday_17 : decode cX9_holiday 17 = .ok (.ireturn, 1) := by decide +kernel
theorem dX9_holiday_18 : decode cX9_holiday 18 = .ok (.iload_n 1, 1) := by decide +kernel
theorem dX9_holiday_19 : decode cX9_holiday 19 = .ok (.sipush 1500, 3) := by decide +kernel
theorem dX9_holiday_22 : decode cX9_holiday 22 = .ok (.if_icmp .gt 15, 3) := by decide +kernel
theorem dX9_holiday_25 : decode cX9_holiday 25 = .ok (.aload_n 0, 1) := by decide +kernel
theorem dX9_holiday_26 : decode cX9_holiday 26 = .ok (.getfield 10, 3) := by decide +kernel
theorem dX9_holiday_29 : decode cX9_holiday 29 = .ok (.getfield 101, 3) := by decide +kernel
theorem dX9_holiday_32 : decode cX9_holiday 32 = .ok (.bipush 20, 2) := by decide +kernel
theorem dX9_holiday_34 : decode cX9_holiday 34 = .ok (.if_icmp .lt 10, 3) := by decide +kernel
theorem dX9_holiday_37 : decode cX9_holiday 37 = .ok (.aload_n 0, 1) := by decide +kernel
theorem dX9_holiday_38 : decode cX9_holiday 38 = .ok (.bipush (-6), 2) := by decide +kernel
theorem dX9_holiday_40 : decode cX9_holiday 40 = .ok (.invokevirtual 78, 3) := by decide +kernel
theorem dX9_holiday_43 : decode cX9_holiday 43 = .ok (.ireturn, 1) := by decide +kernel
theorem dX9_holiday_44 : decode cX9_holiday 44 = .ok (.aload_n 0, 1) := by decide +kernel
theorem dX9_holiday_45 : decode cX9_holiday 45 = .ok (.getfield 10, 3) := by decide +kernel
theorem dX9_holiday_48 : decode cX9_holiday 48 = .ok (.iload_n 1, 1) := by decide +kernel
theorem dX9_holiday_49 : decode cX9_holiday 49 = .ok (.invokevirtual 104, 3) := by decide +kernel
theorem dX9_holiday_52 : decode cX9_holiday 52 = .ok (.ifCond .eq 10, 3) := by decide +kernel
theorem dX9_holiday_55 : decode cX9_holiday 55 = .ok (.aload_n 0, 1) := by decide +kernel
theorem dX9_holiday_56 : decode cX9_holiday 56 = .ok (.bipush (-3), 2) := by decide +kernel
theorem dX9_holiday_58 : decode cX9_holiday 58 = .ok (.invokevirtual 78, 3) := by decide +kernel
theorem dX9_holiday_61 : decode cX9_holiday 61 = .ok (.ireturn, 1) := by decide +kernel
theorem dX9_holiday_62 : decode cX9_holiday 62 = .ok (.aload_n 0, 1) := by decide +kernel
theorem dX9_holiday_63 : decode cX9_holiday 63 = .ok (.getfield 10, 3) := by decide +kernel
theorem dX9_holiday_66 : decode cX9_holiday 66 = .ok (.iload_n 1, 1) := by decide +kernel
theorem dX9_holiday_67 : decode cX9_holiday 67 = .ok (.invokevirtual 107, 3) := by decide +kernel
theorem dX9_holiday_70 : decode cX9_holiday 70 = .ok (.ireturn, 1) := by decide +kernel
theorem dX9_isWorking_0 : decode cX9_isWorking 0 = .ok (.iload_n 1, 1) := by decide +kernel
theorem dX9_isWorking_1 : decode cX9_isWorking 1 = .ok (.iconst 0, 1) := by decide +kernel
theorem dX9_isWorking_2 : decode cX9_isWorking 2 = .ok (.sipush 1500, 3) := by decide +kernel
theorem dX9_isWorking_5 : decode cX9_isWorking 5 = .ok (.invokestatic 74, 3) := by decide +kernel
theorem dX9_isWorking_8 : decode cX9_isWorking 8 = .ok (.istore_n 2, 1) := by decide +kernel
theorem dX9_isWorking_9 : decode cX9_isWorking 9 = .ok (.iload_n 2, 1) := by decide +kernel
theorem dX9_isWorking_10 : decode cX9_isWorking 10 = .ok (.ifCond .eq 9, 3) := by decide +kernel
theorem dX9_isWorking_13 : decode cX9_isWorking 13 = .ok (.aload_n 0, 1) := by decide +kernel
theorem dX9_isWorking_14 : decode cX9_isWorking 14 = .ok (.iload_n 2, 1) := by decide +kernel
theorem dX9_isWorking_15 : decode cX9_isWorking 15 = .ok (.invokevirtual 78, 3) := by decide +kernel
theorem dX9_isWorking_18 : decode cX9_isWorking 18 = .ok (.ireturn, 1) := by decide +kernel
theorem dX9_isWorking_19 : decode cX9_isWorking 19 = .ok (.aload_n 0, 1) := by decide +kernel
theorem dX9_isWorking_20 : decode cX9_isWorking 20 = .ok (.getfield 10, 3) := by decide +kernel
theorem dX9_isWorking_23 : decode cX9_isWorking 23 = .ok (.iload_n 1, 1) := by decide +kernel
theorem dX9_isWorking_24 : decode cX9_isWorking 24 = .ok (.invokevirtual 82, 3) := by decide +kernel
theorem dX9_isWorking_27 : decode cX9_isWorking 27 = .ok (.ifCond .eq 7, 3) := by decide +kernel
theorem dX9_isWorking_30 : decode cX9_isWorking 30 = .ok (.iconst 1, 1) := by decide +kernel
theorem dX9_isWorking_31 : decode cX9_isWorking 31 = .ok (.goto 4, 3) := by decide +kernel
theorem dX9_isWorking_34 : decode cX9_isWorking 34 = .ok (.iconst 0, 1) := by decide +kernel
theorem dX9_isWorking_35 : decode cX9_isWorking 35 = .ok (.ireturn, 1) := by decide +kernel
theorem dX9_bank_0 : decode cX9_bank 0 = .ok (.aload_n 0, 1) := by decide +kernel
theorem dX9_bank_1 : decode cX9_bank 1 = .ok (.iload_n 1, 1) := by decide +kernel
theorem dX9_bank_2 : decode cX9_bank 2 = .ok (.invokevirtual 110, 3) := by decide +kernel
theorem dX9_bank_5 : decode cX9_bank 5 = .ok (.astore 4, 2) := by decide +kernel
theorem dX9_bank_7 : decode cX9_bank 7 = .ok (.aload 4, 2) := by decide +kernel
theorem dX9_bank_9 : decode cX9_bank 9 = .ok (.ifnonnull 9, 3) := by decide +kernel
theorem dX9_bank_12 : decode cX9_bank 12 = .ok (.aload_n 0, 1) := by decide +kernel
theorem dX9_bank_13 : decode cX9_bank 13 = .ok (.iconst (-1), 1) := by decide +kernel
theorem dX9_bank_14 : decode cX9_bank 14 = .ok (.invokevirtual 78, 3) := by decide +kernel
theorem dX9_bank_17 : decode cX9_bank 17 = .ok (.ireturn, 1) := by decide +kernel
theorem dX9_bank_18 : decode cX9_bank 18 = .ok (.iload_n 2, 1) := by decide +kernel
theorem dX9_bank_19 : decode cX9_bank 19 = .ok (.ifCond .lt 8, 3) := by decide +kernel
theorem dX9_bank_22 : decode cX9_bank 22 = .ok (.iload_n 2, 1) := by decide +kernel
theorem dX9_bank_23 : decode cX9_bank 23 = .ok (.iconst 1, 1) := by decide +kernel
theorem dX9_bank_24 : decode cX9_bank 24 = .ok (.if_icmp .le 10, 3) := by decide +kernel
theorem dX9_bank_27 : decode cX9_bank 27 = .ok (.aload_n 0, 1) := by decide +kernel
theorem dX9_bank_28 : decode cX9_bank 28 = .ok (.bipush (-2), 2) := by decide +kernel
theorem dX9_bank_30 : decode cX9_bank 30 = .ok (.invokevirtual 78, 3) := by decide +kernel
theorem dX9_bank_33 : decode cX9_bank 33 = .ok (.ireturn, 1) := by decide +kernel
theorem dX9_bank_34 : decode cX9_bank 34 = .ok (.iload_n 3, 1) := by decide +kernel
theorem dX9_bank_35 : decode cX9_bank 35 = .ok (.iconst 0, 1) := by decide +kernel
theorem dX9_bank_36 : decode cX9_bank 36 = .ok (.iload_n 2, 1) := by decide +kernel
theorem dX9_bank_37 : decode cX9_bank 37 = .ok (.ifCond .ne 9, 3) := by decide +kernel
theorem dX9_bank_40 : decode cX9_bank 40 = .ok (.sipush 999, 3) := by decide +kernel
theorem dX9_bank_43 : decode cX9_bank 43 = .ok (.goto 5, 3) := by decide +kernel
theorem dX9_bank_46 : decode cX9_bank 46 = .ok (.bipush 99, 2) := by decide +kernel
theorem dX9_bank_48 : decode cX9_bank 48 = .ok (.invokestatic 74, 3) := by decide +kernel
theorem dX9_bank_51 : decode cX9_bank 51 = .ok (.istore 5, 2) := by decide +kernel
theorem dX9_bank_53 : decode cX9_bank 53 = .ok (.iload 5, 2) := by decide +kernel
theorem dX9_bank_55 : decode cX9_bank 55 = .ok (.ifCond .eq 10, 3) := by decide +kernel
theorem dX9_bank_58 : decode cX9_bank 58 = .ok (.aload_n 0, 1) := by decide +kernel
theorem dX9_bank_59 : decode cX9_bank 59 = .ok (.iload 5, 2) := by decide +kernel
theorem dX9_bank_61 : decode cX9_bank 61 = .ok (.invokevirtual 78, 3) := by decide +kernel
theorem dX9_bank_64 : decode cX9_bank 64 = .ok (.ireturn, 1) := by decide +kernel
theorem dX9_bank_65 : decode cX9_bank 65 = .ok (.iload_n 2, 1) := by decide +kernel
theorem dX9_bank_66 : decode cX9_bank 66 = .ok (.ifCond .ne 12, 3) := by decide +kernel
theorem dX9_bank_69 : decode cX9_bank 69 = .ok (.aload 4, 2) := by decide +kernel
theorem dX9_bank_71 : decode cX9_bank 71 = .ok (.iload_n 3, 1) := by decide +kernel
theorem dX9_bank_72 : decode cX9_bank 72 = .ok (.invokevirtual 114, 3) := by decide +kernel
theorem dX9_bank_75 : decode cX9_bank 75 = .ok (.goto 9, 3) := by decide +kernel
theorem dX9_bank_78 : decode cX9_bank 78 = .ok (.aload 4, 2) := by decide +kernel
theorem dX9_bank_80 : decode cX9_bank 80 = .ok (.iload_n 3, 1) := by decide +kernel
theorem dX9_bank_81 : decode cX9_bank 81 = .ok (.invokevirtual 117, 3) := by decide +kernel
theorem dX9_bank_84 : decode cX9_bank 84 = .ok (.ireturn, 1) := by decide +kernel
theorem dX9_late_0 : decode cX9_late 0 = .ok (.aload_n 0, 1) := by decide +kernel
theorem dX9_late_1 : decode cX9_late 1 = .ok (.iload_n 1, 1) := by decide +kernel
theorem dX9_late_2 : decode cX9_late 2 = .ok (.invokevirtual 110, 3) := by decide +kernel
theorem dX9_late_5 : decode cX9_late 5 = .ok (.ifnonnull 9, 3) := by decide +kernel
theorem dX9_late_8 : decode cX9_late 8 = .ok (.aload_n 0, 1) := by decide +kernel
theorem dX9_late_9 : decode cX9_late 9 = .ok (.iconst (-1), 1) := by decide +kernel
theorem dX9_late_10 : decode cX9_late 10 = .ok (.invokevirtual 78, 3) := by decide +kernel
theorem dX9_late_13 : decode cX9_late 13 = .ok (.ireturn, 1) := by decide +kernel
theorem dX9_late_14 : decode cX9_late 14 = .ok (.aload_n 0, 1) := by decide +kernel
theorem dX9_late_15 : decode cX9_late 15 = .ok (.getfield 10, 3) := by decide +kernel
theorem dX9_late_18 : decode cX9_late 18 = .ok (.iload_n 1, 1) := by decide +kernel
theorem dX9_late_19 : decode cX9_late 19 = .ok (.iload_n 2, 1) := by decide +kernel
theorem dX9_late_20 : decode cX9_late 20 = .ok (.invokevirtual 120, 3) := by decide +kernel
theorem dX9_late_23 : decode cX9_late 23 = .ok (.ifCond .eq 10, 3) := by decide +kernel
theorem dX9_late_26 : decode cX9_late 26 = .ok (.aload_n 0, 1) := by decide +kernel
theorem dX9_late_27 : decode cX9_late 27 = .ok (.bipush (-3), 2) := by decide +kernel
theorem dX9_late_29 : decode cX9_late 29 = .ok (.invokevirtual 78, 3) := by decide +kernel
theorem dX9_late_32 : decode cX9_late 32 = .ok (.ireturn, 1) := by decide +kernel
theorem dX9_late_33 : decode cX9_late 33 = .ok (.iload_n 2, 1) := by decide +kernel
theorem dX9_late_34 : decode cX9_late 34 = .ok (.aload_n 0, 1) := by decide +kernel
theorem dX9_late_35 : decode cX9_late 35 = .ok (.getfield 10, 3) := by decide +kernel
theorem dX9_late_38 : decode cX9_late 38 = .ok (.getfield 71, 3) := by decide +kernel
theorem dX9_late_41 : decode cX9_late 41 = .ok (.if_icmp .ge 10, 3) := by decide +kernel
theorem dX9_late_44 : decode cX9_late 44 = .ok (.aload_n 0, 1) := by decide +kernel
theorem dX9_late_45 : decode cX9_late 45 = .ok (.bipush (-4), 2) := by decide +kernel
theorem dX9_late_47 : decode cX9_late 47 = .ok (.invokevirtual 78, 3) := by decide +kernel
theorem dX9_late_50 : decode cX9_late 50 = .ok (.ireturn, 1) := by decide +kernel
theorem dX9_late_51 : decode cX9_late 51 = .ok (.iload_n 2, 1) := by decide +kernel
theorem dX9_late_52 : decode cX9_late 52 = .ok (.sipush 1500, 3) := by decide +kernel
theorem dX9_late_55 : decode cX9_late 55 = .ok (.if_icmp .gt 15, 3) := by decide +kernel
theorem dX9_late_58 : decode cX9_late 58 = .ok (.aload_n 0, 1) := by decide +kernel
theorem dX9_late_59 : decode cX9_late 59 = .ok (.getfield 10, 3) := by decide +kernel
theorem dX9_late_62 : decode cX9_late 62 = .ok (.getfield 124, 3) := by decide +kernel
theorem dX9_late_65 : decode cX9_late 65 = .ok (.bipush 60, 2) := by decide +kernel
theorem dX9_late_67 : decode cX9_late 67 = .ok (.if_icmp .lt 10, 3) := by decide +kernel
theorem dX9_late_70 : decode cX9_late 70 = .ok (.aload_n 0, 1) := by decide +kernel
theorem dX9_late_71 : decode cX9_late 71 = .ok (.bipush (-6), 2) := by decide +kernel
theorem dX9_late_73 : decode cX9_late 73 = .ok (.invokevirtual 78, 3) := by decide +kernel
theorem dX9_late_76 : decode cX9_late 76 = .ok (.ireturn, 1) := by decide +kernel
theorem dX9_late_77 : decode cX9_late 77 = .ok (.aload_n 0, 1) := by decide +kernel
theorem dX9_late_78 : decode cX9_late 78 = .ok (.getfield 10, 3) := by decide +kernel
theorem dX9_late_81 : decode cX9_late 81 = .ok (.iload_n 1, 1) := by decide +kernel
theorem dX9_late_82 : decode cX9_late 82 = .ok (.iload_n 2, 1) := by decide +kernel
theorem dX9_late_83 : decode cX9_late 83 = .ok (.invokevirtual 127, 3) := by decide +kernel
theorem dX9_late_86 : decode cX9_late 86 = .ok (.ireturn, 1) := by decide +kernel
theorem dX9_owes_0 : decode cX9_owes 0 = .ok (.aload_n 0, 1) := by decide +kernel
theorem dX9_owes_1 : decode cX9_owes 1 = .ok (.iload_n 1, 1) := by decide +kernel
theorem dX9_owes_2 : decode cX9_owes 2 = .ok (.invokevirtual 110, 3) := by decide +kernel
theorem dX9_owes_5 : decode cX9_owes 5 = .ok (.astore_n 2, 1) := by decide +kernel
theorem dX9_owes_6 : decode cX9_owes 6 = .ok (.aload_n 2, 1) := by decide +kernel
theorem dX9_owes_7 : decode cX9_owes 7 = .ok (.ifnonnull 11, 3) := by decide +kernel
theorem dX9_owes_10 : decode cX9_owes 10 = .ok (.aload_n 0, 1) := by decide +kernel
theorem dX9_owes_11 : decode cX9_owes 11 = .ok (.iconst (-1), 1) := by decide +kernel
theorem dX9_owes_12 : decode cX9_owes 12 = .ok (.invokevirtual 78, 3) := by decide +kernel
theorem dX9_owes_15 : decode cX9_owes 15 = .ok (.goto 7, 3) := by decide +kernel
theorem dX9_owes_18 : decode cX9_owes 18 = .ok (.aload_n 2, 1) := by decide +kernel
theorem dX9_owes_19 : decode cX9_owes 19 = .ok (.getfield 131, 3) := by decide +kernel
theorem dX9_owes_22 : decode cX9_owes 22 = .ok (.ireturn, 1) := by decide +kernel
theorem dX9_net_0 : decode cX9_net 0 = .ok (.aload_n 0, 1) := by decide +kernel
theorem dX9_net_1 : decode cX9_net 1 = .ok (.iload_n 1, 1) := by decide +kernel
theorem dX9_net_2 : decode cX9_net 2 = .ok (.invokevirtual 110, 3) := by decide +kernel
theorem dX9_net_5 : decode cX9_net 5 = .ok (.astore_n 2, 1) := by decide +kernel
theorem dX9_net_6 : decode cX9_net 6 = .ok (.aload_n 2, 1) := by decide +kernel
theorem dX9_net_7 : decode cX9_net 7 = .ok (.ifnonnull 11, 3) := by decide +kernel
theorem dX9_net_10 : decode cX9_net 10 = .ok (.aload_n 0, 1) := by decide +kernel
theorem dX9_net_11 : decode cX9_net 11 = .ok (.iconst (-1), 1) := by decide +kernel
theorem dX9_net_12 : decode cX9_net 12 = .ok (.invokevirtual 134, 3) := by decide +kernel
theorem dX9_net_15 : decode cX9_net 15 = .ok (.goto 7, 3) := by decide +kernel
theorem dX9_net_18 : decode cX9_net 18 = .ok (.aload_n 2, 1) := by decide +kernel
theorem dX9_net_19 : decode cX9_net 19 = .ok (.getfield 138, 3) := by decide +kernel
theorem dX9_net_22 : decode cX9_net 22 = .ok (.lreturn, 1) := by decide +kernel
theorem dX9_account_0 : decode cX9_account 0 = .ok (.aload_n 0, 1) := by decide +kernel
theorem dX9_account_1 : decode cX9_account 1 = .ok (.iload_n 1, 1) := by decide +kernel
theorem dX9_account_2 : decode cX9_account 2 = .ok (.invokevirtual 110, 3) := by decide +kernel
theorem dX9_account_5 : decode cX9_account 5 = .ok (.astore 4, 2) := by decide +kernel
theorem dX9_account_7 : decode cX9_account 7 = .ok (.aload 4, 2) := by decide +kernel
theorem dX9_account_9 : decode cX9_account 9 = .ok (.ifnonnull 9, 3) := by decide +kernel
theorem dX9_account_12 : decode cX9_account 12 = .ok (.aload_n 0, 1) := by decide +kernel
theorem dX9_account_13 : decode cX9_account 13 = .ok (.iconst (-1), 1) := by decide +kernel
theorem dX9_account_14 : decode cX9_account 14 = .ok (.invokevirtual 78, 3) := by decide +kernel
theorem dX9_account_17 : decode cX9_account 17 = .ok (.ireturn, 1) := by decide +kernel
theorem dX9_account_18 : decode cX9_account 18 = .ok (.iload_n 2, 1) := by decide +kernel
theorem dX9_account_19 : decode cX9_account 19 = .ok (.ifCond .lt 8, 3) := by decide +kernel
theorem dX9_account_22 : decode cX9_account 22 = .ok (.iload_n 3, 1) := by decide +kernel
theorem dX9_account_23 : decode cX9_account 23 = .ok (.iconst (-1), 1) := by decide +kernel
theorem dX9_account_24 : decode cX9_account 24 = .ok (.if_icmp .ge 10, 3) := by decide +kernel
theorem dX9_account_27 : decode cX9_account 27 = .ok (.aload_n 0, 1) := by decide +kernel
theorem dX9_account_28 : decode cX9_account 28 = .ok (.bipush (-4), 2) := by decide +kernel
theorem dX9_account_30 : decode cX9_account 30 = .ok (.invokevirtual 78, 3) := by decide +kernel
theorem dX9_account_33 : decode cX9_account 33 = .ok (.ireturn, 1) := by decide +kernel
theorem dX9_account_34 : decode cX9_account 34 = .ok (.iload_n 2, 1) := by decide +kernel
theorem dX9_account_35 : decode cX9_account 35 = .ok (.sipush 9999, 3) := by decide +kernel
theorem dX9_account_38 : decode cX9_account 38 = .ok (.if_icmp .gt 22, 3) := by decide +kernel
theorem dX9_account_41 : decode cX9_account 41 = .ok (.iload_n 3, 1) := by decide +kernel
theorem dX9_account_42 : decode cX9_account 42 = .ok (.sipush 9999, 3) := by decide +kernel
theorem dX9_account_45 : decode cX9_account 45 = .ok (.if_icmp .gt 15, 3) := by decide +kernel
theorem dX9_account_48 : decode cX9_account 48 = .ok (.aload_n 0, 1) := by decide +kernel
theorem dX9_account_49 : decode cX9_account 49 = .ok (.getfield 28, 3) := by decide +kernel
theorem dX9_account_52 : decode cX9_account 52 = .ok (.invokevirtual 142, 3) := by decide +kernel
theorem dX9_account_55 : decode cX9_account 55 = .ok (.bipush 40, 2) := by decide +kernel
theorem dX9_account_57 : decode cX9_account 57 = .ok (.if_icmp .lt 10, 3) := by decide +kernel
theorem dX9_account_60 : decode cX9_account 60 = .ok (.aload_n 0, 1) := by decide +kernel
theorem dX9_account_61 : decode cX9_account 61 = .ok (.bipush (-6), 2) := by decide +kernel
theorem dX9_account_63 : decode cX9_account 63 = .ok (.invokevirtual 78, 3) := by decide +kernel
theorem dX9_account_66 : decode cX9_account 66 = .ok (.ireturn, 1) := by decide +kernel
theorem dX9_account_67 : decode cX9_account 67 = .ok (.aload_n 0, 1) := by decide +kernel
theorem dX9_account_68 : decode cX9_account 68 = .ok (.aload 4, 2) := by decide +kernel
theorem dX9_account_70 : decode cX9_account 70 = .ok (.iload_n 2, 1) := by decide +kernel
theorem dX9_account_71 : decode cX9_account 71 = .ok (.iload_n 3, 1) := by decide +kernel
theorem dX9_account_72 : decode cX9_account 72 = .ok (.invokevirtual 146, 3) := by decide +kernel
theorem dX9_account_75 : decode cX9_account 75 = .ok (.getfield 150, 3) := by decide +kernel
theorem dX9_account_78 : decode cX9_account 78 = .ok (.ireturn, 1) := by decide +kernel
theorem dX9_put_0 : decode cX9_put 0 = .ok (.aload_n 0, 1) := by decide +kernel
theorem dX9_put_1 : decode cX9_put 1 = .ok (.iload_n 1, 1) := by decide +kernel
theorem dX9_put_2 : decode cX9_put 2 = .ok (.invokevirtual 155, 3) := by decide +kernel
theorem dX9_put_5 : decode cX9_put 5 = .ok (.astore_n 3, 1) := by decide +kernel
theorem dX9_put_6 : decode cX9_put 6 = .ok (.aload_n 3, 1) := by decide +kernel
theorem dX9_put_7 : decode cX9_put 7 = .ok (.ifnonnull 9, 3) := by decide +kernel
theorem dX9_put_10 : decode cX9_put 10 = .ok (.aload_n 0, 1) := by decide +kernel
theorem dX9_put_11 : decode cX9_put 11 = .ok (.iconst (-1), 1) := by decide +kernel
theorem dX9_put_12 : decode cX9_put 12 = .ok (.invokevirtual 134, 3) := by decide +kernel
theorem dX9_put_15 : decode cX9_put 15 = .ok (.lreturn, 1) := by decide +kernel
theorem dX9_put_16 : decode cX9_put 16 = .ok (.aload_n 3, 1) := by decide +kernel
theorem dX9_put_17 : decode cX9_put 17 = .ok (.getfield 159, 3) := by decide +kernel
theorem dX9_put_20 : decode cX9_put 20 = .ok (.ifCond .eq 10, 3) := by decide +kernel
theorem dX9_put_23 : decode cX9_put 23 = .ok (.aload_n 0, 1) := by decide +kernel
theorem dX9_put_24 : decode cX9_put 24 = .ok (.bipush (-3), 2) := by decide +kernel
theorem dX9_put_26 : decode cX9_put 26 = .ok (.invokevirtual 134, 3) := by decide +kernel
theorem dX9_put_29 : decode cX9_put 29 = .ok (.lreturn, 1) := by decide +kernel
theorem dX9_put_30 : decode cX9_put 30 = .ok (.iload_n 2, 1) := by decide +kernel
theorem dX9_put_31 : decode cX9_put 31 = .ok (.iconst 1, 1) := by decide +kernel
theorem dX9_put_32 : decode cX9_put 32 = .ok (.ldc 162, 2) := by decide +kernel
theorem dX9_put_34 : decode cX9_put 34 = .ok (.invokestatic 74, 3) := by decide +kernel
theorem dX9_put_37 : decode cX9_put 37 = .ok (.istore 4, 2) := by decide +kernel
theorem dX9_put_39 : decode cX9_put 39 = .ok (.iload 4, 2) := by decide +kernel
theorem dX9_put_41 : decode cX9_put 41 = .ok (.ifCond .eq 10, 3) := by decide +kernel
theorem dX9_put_44 : decode cX9_put 44 = .ok (.aload_n 0, 1) := by decide +kernel
theorem dX9_put_45 : decode cX9_put 45 = .ok (.iload 4, 2) := by decide +kernel
theorem dX9_put_47 : decode cX9_put 47 = .ok (.invokevirtual 134, 3) := by decide +kernel
theorem dX9_put_50 : decode cX9_put 50 = .ok (.lreturn, 1) := by decide +kernel
theorem dX9_put_51 : decode cX9_put 51 = .ok (.aload_n 3, 1) := by decide +kernel
theorem dX9_put_52 : decode cX9_put 52 = .ok (.dup, 1) := by decide +kernel
theorem dX9_put_53 : decode cX9_put 53 = .ok (.getfield 163, 3) := by decide +kernel
theorem dX9_put_56 : decode cX9_put 56 = .ok (.iload_n 2, 1) := by decide +kernel
theorem dX9_put_57 : decode cX9_put 57 = .ok (.i2l, 1) := by decide +kernel
theorem dX9_put_58 : decode cX9_put 58 = .ok (.ladd, 1) := by decide +kernel
theorem dX9_put_59 : decode cX9_put 59 = .ok (.putfield 163, 3) := by decide +kernel
theorem dX9_put_62 : decode cX9_put 62 = .ok (.aload_n 3, 1) := by decide +kernel
theorem dX9_put_63 : decode cX9_put 63 = .ok (.getfield 163, 3) := by decide +kernel
theorem dX9_put_66 : decode cX9_put 66 = .ok (.lreturn, 1) := by decide +kernel
theorem dX9_over_0 : decode cX9_over 0 = .ok (.aload_n 0, 1) := by decide +kernel
theorem dX9_over_1 : decode cX9_over 1 = .ok (.iload_n 1, 1) := by decide +kernel
theorem dX9_over_2 : decode cX9_over 2 = .ok (.invokevirtual 155, 3) := by decide +kernel
theorem dX9_over_5 : decode cX9_over 5 = .ok (.astore_n 3, 1) := by decide +kernel
theorem dX9_over_6 : decode cX9_over 6 = .ok (.aload_n 3, 1) := by decide +kernel
theorem dX9_over_7 : decode cX9_over 7 = .ok (.ifnonnull 9, 3) := by decide +kernel
theorem dX9_over_10 : decode cX9_over 10 = .ok (.aload_n 0, 1) := by decide +kernel
theorem dX9_over_11 : decode cX9_over 11 = .ok (.iconst (-1), 1) := by decide +kernel
theorem dX9_over_12 : decode cX9_over 12 = .ok (.invokevirtual 78, 3) := by decide +kernel
theorem dX9_over_15 : decode cX9_over 15 = .ok (.ireturn, 1) := by decide +kernel
theorem dX9_over_16 : decode cX9_over 16 = .ok (.iload_n 2, 1) := by decide +kernel
theorem dX9_over_17 : decode cX9_over 17 = .ok (.iconst 0, 1) := by decide +kernel
theorem dX9_over_18 : decode cX9_over 18 = .ok (.ldc 162, 2) := by decide +kernel
theorem dX9_over_20 : decode cX9_over 20 = .ok (.invokestatic 74, 3) := by decide +kernel
theorem dX9_over_23 : decode cX9_over 23 = .ok (.istore 4, 2) := by decide +kernel
theorem dX9_over_25 : decode cX9_over 25 = .ok (.iload 4, 2) := by decide +kernel
theorem dX9_over_27 : decode cX9_over 27 = .ok (.ifCond .eq 10, 3) := by decide +kernel
theorem dX9_over_30 : decode cX9_over 30 = .ok (.aload_n 0, 1) := by decide +kernel
theorem dX9_over_31 : decode cX9_over 31 = .ok (.iload 4, 2) := by decide +kernel
theorem dX9_over_33 : decode cX9_over 33 = .ok (.invokevirtual 78, 3) := by decide +kernel
theorem dX9_over_36 : decode cX9_over 36 = .ok (.ireturn, 1) := by decide +kernel
theorem dX9_over_37 : decode cX9_over 37 = .ok (.aload_n 3, 1) := by decide +kernel
theorem dX9_over_38 : decode cX9_over 38 = .ok (.getfield 166, 3) := by decide +kernel
theorem dX9_over_41 : decode cX9_over 41 = .ok (.istore 5, 2) := by decide +kernel
theorem dX9_over_43 : decode cX9_over 43 = .ok (.aload_n 3, 1) := by decide +kernel
theorem dX9_over_44 : decode cX9_over 44 = .ok (.iload_n 2, 1) := by decide +kernel
theorem dX9_over_45 : decode cX9_over 45 = .ok (.putfield 166, 3) := by decide +kernel
theorem dX9_over_48 : decode cX9_over 48 = .ok (.iload 5, 2) := by decide +kernel
theorem dX9_over_50 : decode cX9_over 50 = .ok (.ireturn, 1) := by decide +kernel
theorem dX9_close_0 : decode cX9_close 0 = .ok (.aload_n 0, 1) := by decide +kernel
theorem dX9_close_1 : decode cX9_close 1 = .ok (.iload_n 1, 1) := by decide +kernel
theorem dX9_close_2 : decode cX9_close 2 = .ok (.invokevirtual 155, 3) := by decide +kernel
theorem dX9_close_5 : decode cX9_close 5 = .ok (.astore_n 2, 1) := by decide +kernel
theorem dX9_close_6 : decode cX9_close 6 = .ok (.aload_n 2, 1) := by decide +kernel
theorem dX9_close_7 : decode cX9_close 7 = .ok (.ifnonnull 9, 3) := by decide +kernel
theorem dX9_close_10 : decode cX9_close 10 = .ok (.aload_n 0, 1) := by decide +kernel
theorem dX9_close_11 : decode cX9_close 11 = .ok (.iconst (-1), 1) := by decide +kernel
theorem dX9_close_12 : decode cX9_close 12 = .ok (.invokevirtual 78, 3) := by decide +kernel
theorem dX9_close_15 : decode cX9_close 15 = .ok (.ireturn, 1) := by decide +kernel
theorem dX9_close_16 : decode cX9_close 16 = .ok (.aload_n 2, 1) := by decide +kernel
theorem dX9_close_17 : decode cX9_close 17 = .ok (.getfield 159, 3) := by decide +kernel
theorem dX9_close_20 : decode cX9_close 20 = .ok (.ifCond .ne 20, 3) := by decide +kernel
theorem dX9_close_23 : decode cX9_close 23 = .ok (.aload_n 2, 1) := by decide +kernel
theorem dX9_close_24 : decode cX9_close 24 = .ok (.getfield 163, 3) := by decide +kernel
theorem dX9_close_27 : decode cX9_close 27 = .ok (.lconst 0, 1) := by decide +kernel
theorem dX9_close_28 : decode cX9_close 28 = .ok (.lcmp, 1) := by decide +kernel
theorem dX9_close_29 : decode cX9_close 29 = .ok (.ifCond .ne 11, 3) := by decide +kernel
theorem dX9_close_32 : decode cX9_close 32 = .ok (.aload_n 0, 1) := by decide +kernel
theorem dX9_close_33 : decode cX9_close 33 = .ok (.aload_n 2, 1) := by decide +kernel
theorem dX9_close_34 : decode cX9_close 34 = .ok (.invokevirtual 169, 3) := by decide +kernel
theorem dX9_close_37 : decode cX9_close 37 = .ok (.ifCond .eq 10, 3) := by decide +kernel
theorem dX9_close_40 : decode cX9_close 40 = .ok (.aload_n 0, 1) := by decide +kernel
theorem dX9_close_41 : decode cX9_close 41 = .ok (.bipush (-3), 2) := by decide +kernel
theorem dX9_close_43 : decode cX9_close 43 = .ok (.invokevirtual 78, 3) := by decide +kernel
theorem dX9_close_46 : decode cX9_close 46 = .ok (.ireturn, 1) := by decide +kernel
theorem dX9_close_47 : decode cX9_close 47 = .ok (.aload_n 2, 1) := by decide +kernel
theorem dX9_close_48 : decode cX9_close 48 = .ok (.iconst 1, 1) := by decide +kernel
theorem dX9_close_49 : decode cX9_close 49 = .ok (.putfield 159, 3) := by decide +kernel
theorem dX9_close_52 : decode cX9_close 52 = .ok (.iconst 1, 1) := by decide +kernel
theorem dX9_close_53 : decode cX9_close 53 = .ok (.ireturn, 1) := by decide +kernel
theorem dX9_sum_0 : decode cX9_sum 0 = .ok (.aload_n 0, 1) := by decide +kernel
theorem dX9_sum_1 : decode cX9_sum 1 = .ok (.iload_n 1, 1) := by decide +kernel
theorem dX9_sum_2 : decode cX9_sum 2 = .ok (.invokevirtual 155, 3) := by decide +kernel
theorem dX9_sum_5 : decode cX9_sum 5 = .ok (.astore_n 2, 1) := by decide +kernel
theorem dX9_sum_6 : decode cX9_sum 6 = .ok (.aload_n 2, 1) := by decide +kernel
theorem dX9_sum_7 : decode cX9_sum 7 = .ok (.ifnonnull 11, 3) := by decide +kernel
theorem dX9_sum_10 : decode cX9_sum 10 = .ok (.aload_n 0, 1) := by decide +kernel
theorem dX9_sum_11 : decode cX9_sum 11 = .ok (.iconst (-1), 1) := by decide +kernel
theorem dX9_sum_12 : decode cX9_sum 12 = .ok (.invokevirtual 134, 3) := by decide +kernel
theorem dX9_sum_15 : decode cX9_sum 15 = .ok (.goto 7, 3) := by decide +kernel
theorem dX9_sum_18 : decode cX9_sum 18 = .ok (.aload_n 2, 1) := by decide +kernel
theorem dX9_sum_19 : decode cX9_sum 19 = .ok (.getfield 163, 3) := by decide +kernel
theorem dX9_sum_22 : decode cX9_sum 22 = .ok (.lreturn, 1) := by decide +kernel
theorem dX9_was_0 : decode cX9_was 0 = .ok (.aload_n 0, 1) := by decide +kernel
theorem dX9_was_1 : decode cX9_was 1 = .ok (.iload_n 1, 1) := by decide +kernel
theorem dX9_was_2 : decode cX9_was 2 = .ok (.invokevirtual 155, 3) := by decide +kernel
theorem dX9_was_5 : decode cX9_was 5 = .ok (.astore_n 3, 1) := by decide +kernel
theorem dX9_was_6 : decode cX9_was 6 = .ok (.aload_n 3, 1) := by decide +kernel
theorem dX9_was_7 : decode cX9_was 7 = .ok (.ifnonnull 9, 3) := by decide +kernel
theorem dX9_was_10 : decode cX9_was 10 = .ok (.aload_n 0, 1) := by decide +kernel
theorem dX9_was_11 : decode cX9_was 11 = .ok (.iconst (-1), 1) := by decide +kernel
theorem dX9_was_12 : decode cX9_was 12 = .ok (.invokevirtual 134, 3) := by decide +kernel
theorem dX9_was_15 : decode cX9_was 15 = .ok (.lreturn, 1) := by decide +kernel
theorem dX9_was_16 : decode cX9_was 16 = .ok (.iload_n 2, 1) := by decide +kernel
theorem dX9_was_17 : decode cX9_was 17 = .ok (.iconst 0, 1) := by decide +kernel
theorem dX9_was_18 : decode cX9_was 18 = .ok (.aload_n 0, 1) := by decide +kernel
theorem dX9_was_19 : decode cX9_was 19 = .ok (.getfield 10, 3) := by decide +kernel
theorem dX9_was_22 : decode cX9_was 22 = .ok (.getfield 71, 3) := by decide +kernel
theorem dX9_was_25 : decode cX9_was 25 = .ok (.iconst 1, 1) := by decide +kernel
theorem dX9_was_26 : decode cX9_was 26 = .ok (.isub, 1) := by decide +kernel
theorem dX9_was_27 : decode cX9_was 27 = .ok (.invokestatic 74, 3) := by decide +kernel
theorem dX9_was_30 : decode cX9_was 30 = .ok (.istore 4, 2) := by decide +kernel
theorem dX9_was_32 : decode cX9_was 32 = .ok (.iload 4, 2) := by decide +kernel
theorem dX9_was_34 : decode cX9_was 34 = .ok (.ifCond .eq 10, 3) := by decide +kernel
theorem dX9_was_37 : decode cX9_was 37 = .ok (.aload_n 0, 1) := by decide +kernel
theorem dX9_was_38 : decode cX9_was 38 = .ok (.iload 4, 2) := by decide +kernel
theorem dX9_was_40 : decode cX9_was 40 = .ok (.invokevirtual 134, 3) := by decide +kernel
theorem dX9_was_43 : decode cX9_was 43 = .ok (.lreturn, 1) := by decide +kernel
theorem dX9_was_44 : decode cX9_was 44 = .ok (.aload_n 3, 1) := by decide +kernel
theorem dX9_was_45 : decode cX9_was 45 = .ok (.iload_n 2, 1) := by decide +kernel
theorem dX9_was_46 : decode cX9_was 46 = .ok (.invokevirtual 173, 3) := by decide +kernel
theorem dX9_was_49 : decode cX9_was 49 = .ok (.lreturn, 1) := by decide +kernel
theorem dX9_accountOf_0 : decode cX9_accountOf 0 = .ok (.aload_n 0, 1) := by decide +kernel
theorem dX9_accountOf_1 : decode cX9_accountOf 1 = .ok (.iload_n 1, 1) := by decide +kernel
theorem dX9_accountOf_2 : decode cX9_accountOf 2 = .ok (.invokevirtual 155, 3) := by decide +kernel
theorem dX9_accountOf_5 : decode cX9_accountOf 5 = .ok (.astore_n 3, 1) := by decide +kernel
theorem dX9_accountOf_6 : decode cX9_accountOf 6 = .ok (.aload_n 3, 1) := by decide +kernel
theorem dX9_accountOf_7 : decode cX9_accountOf 7 = .ok (.ifnonnull 9, 3) := by decide +kernel
theorem dX9_accountOf_10 : decode cX9_accountOf 10 = .ok (.aload_n 0, 1) := by decide +kernel
theorem dX9_accountOf_11 : decode cX9_accountOf 11 = .ok (.iconst (-1), 1) := by decide +kernel
theorem dX9_accountOf_12 : decode cX9_accountOf 12 = .ok (.invokevirtual 78, 3) := by decide +kernel
theorem dX9_accountOf_15 : decode cX9_accountOf 15 = .ok (.ireturn, 1) := by decide +kernel
theorem dX9_accountOf_16 : decode cX9_accountOf 16 = .ok (.iload_n 2, 1) := by decide +kernel
theorem dX9_accountOf_17 : decode cX9_accountOf 17 = .ok (.tableswitch 111 0 6 #[43, 51, 56, 76, 93, 101, 106], 43) := by decide +kernel
theorem dX9_accountOf_60 : decode cX9_accountOf 60 = .ok (.aload_n 3, 1) := by decide +kernel
theorem dX9_accountOf_61 : decode cX9_accountOf 61 = .ok (.getfield 176, 3) := by decide +kernel
theorem dX9_accountOf_64 : decode cX9_accountOf 64 = .ok (.getfield 180, 3) := by decide +kernel
theorem dX9_accountOf_67 : decode cX9_accountOf 67 = .ok (.ireturn, 1) := by decide +kernel
theorem dX9_accountOf_68 : decode cX9_accountOf 68 = .ok (.aload_n 3, 1) := by decide +kernel
theorem dX9_accountOf_69 : decode cX9_accountOf 69 = .ok (.getfield 159, 3) := by decide +kernel
theorem dX9_accountOf_72 : decode cX9_accountOf 72 = .ok (.ireturn, 1) := by decide +kernel
theorem dX9_accountOf_73 : decode cX9_accountOf 73 = .ok (.aload_n 3, 1) := by decide +kernel
theorem dX9_accountOf_74 : decode cX9_accountOf 74 = .ok (.getfield 181, 3) := by decide +kernel
theorem dX9_accountOf_77 : decode cX9_accountOf 77 = .ok (.ifnonnull 8, 3) := by decide +kernel
theorem dX9_accountOf_80 : decode cX9_accountOf 80 = .ok (.bipush (-9), 2) := by decide +kernel
theorem dX9_accountOf_82 : decode cX9_accountOf 82 = .ok (.goto 10, 3) := by decide +kernel
theorem dX9_accountOf_85 : decode cX9_accountOf 85 = .ok (.aload_n 3, 1) := by decide +kernel
theorem dX9_accountOf_86 : decode cX9_accountOf 86 = .ok (.getfield 181, 3) := by decide +kernel
theorem dX9_accountOf_89 : decode cX9_accountOf 89 = .ok (.getfield 150, 3) := by decide +kernel
theorem dX9_accountOf_92 : decode cX9_accountOf 92 = .ok (.ireturn, 1) := by decide +kernel
theorem dX9_accountOf_93 : decode cX9_accountOf 93 = .ok (.aload_n 3, 1) := by decide +kernel
theorem dX9_accountOf_94 : decode cX9_accountOf 94 = .ok (.getfield 181, 3) := by decide +kernel
theorem dX9_accountOf_97 : decode cX9_accountOf 97 = .ok (.ifnonnull 8, 3) := by decide +kernel
theorem dX9_accountOf_100 : decode cX9_accountOf 100 = .ok (.bipush (-9), 2) := by decide +kernel
theorem dX9_accountOf_102 : decode cX9_accountOf 102 = .ok (.goto 7, 3) := by decide +kernel
theorem dX9_accountOf_105 : decode cX9_accountOf 105 = .ok (.aload_n 3, 1) := by decide +kernel
theorem dX9_accountOf_106 : decode cX9_accountOf 106 = .ok (.getfield 185, 3) := by decide +kernel
theorem dX9_accountOf_109 : decode cX9_accountOf 109 = .ok (.ireturn, 1) := by decide +kernel
theorem dX9_accountOf_110 : decode cX9_accountOf 110 = .ok (.aload_n 3, 1) := by decide +kernel
theorem dX9_accountOf_111 : decode cX9_accountOf 111 = .ok (.invokestatic 188, 3) := by decide +kernel
theorem dX9_accountOf_114 : decode cX9_accountOf 114 = .ok (.getfield 150, 3) := by decide +kernel
theorem dX9_accountOf_117 : decode cX9_accountOf 117 = .ok (.ireturn, 1) := by decide +kernel
theorem dX9_accountOf_118 : decode cX9_accountOf 118 = .ok (.aload_n 3, 1) := by decide +kernel
theorem dX9_accountOf_119 : decode cX9_accountOf 119 = .ok (.getfield 166, 3) := by decide +kernel
theorem dX9_accountOf_122 : decode cX9_accountOf 122 = .ok (.ireturn, 1) := by decide +kernel
theorem dX9_accountOf_123 : decode cX9_accountOf 123 = .ok (.aload_n 3, 1) := by decide +kernel
theorem dX9_accountOf_124 : decode cX9_accountOf 124 = .ok (.getfield 192, 3) := by decide +kernel
theorem dX9_accountOf_127 : decode cX9_accountOf 127 = .ok (.ireturn, 1) := by decide +kernel
theorem dX9_accountOf_128 : decode cX9_accountOf 128 = .ok (.aload_n 0, 1) := by decide +kernel
theorem dX9_accountOf_129 : decode cX9_accountOf 129 = .ok (.bipush (-2), 2) := by decide +kernel
theorem dX9_accountOf_131 : decode cX9_accountOf 131 = .ok (.invokevirtual 78, 3) := by decide +kernel
theorem dX9_accountOf_134 : decode cX9_accountOf 134 = .ok (.ireturn, 1) := by decide +kernel
theorem dX9_sends_0 : decode cX9_sends 0 = .ok (.aload_n 0, 1) := by decide +kernel
theorem dX9_sends_1 : decode cX9_sends 1 = .ok (.iload_n 1, 1) := by decide +kernel
theorem dX9_sends_2 : decode cX9_sends 2 = .ok (.invokevirtual 155, 3) := by decide +kernel
theorem dX9_sends_5 : decode cX9_sends 5 = .ok (.astore_n 3, 1) := by decide +kernel
theorem dX9_sends_6 : decode cX9_sends 6 = .ok (.aload_n 3, 1) := by decide +kernel
theorem dX9_sends_7 : decode cX9_sends 7 = .ok (.ifnonnull 9, 3) := by decide +kernel
theorem dX9_sends_10 : decode cX9_sends 10 = .ok (.aload_n 0, 1) := by decide +kernel
theorem dX9_sends_11 : decode cX9_sends 11 = .ok (.iconst (-1), 1) := by decide +kernel
theorem dX9_sends_12 : decode cX9_sends 12 = .ok (.invokevirtual 78, 3) := by decide +kernel
theorem dX9_sends_15 : decode cX9_sends 15 = .ok (.ireturn, 1) := by decide +kernel
theorem dX9_sends_16 : decode cX9_sends 16 = .ok (.iload_n 2, 1) := by decide +kernel
theorem dX9_sends_17 : decode cX9_sends 17 = .ok (.iconst 0, 1) := by decide +kernel
theorem dX9_sends_18 : decode cX9_sends 18 = .ok (.sipush 1500, 3) := by decide +kernel
theorem dX9_sends_21 : decode cX9_sends 21 = .ok (.invokestatic 74, 3) := by decide +kernel
theorem dX9_sends_24 : decode cX9_sends 24 = .ok (.istore 4, 2) := by decide +kernel
theorem dX9_sends_26 : decode cX9_sends 26 = .ok (.iload 4, 2) := by decide +kernel
theorem dX9_sends_28 : decode cX9_sends 28 = .ok (.ifCond .eq 10, 3) := by decide +kernel
theorem dX9_sends_31 : decode cX9_sends 31 = .ok (.aload_n 0, 1) := by decide +kernel
theorem dX9_sends_32 : decode cX9_sends 32 = .ok (.iload 4, 2) := by decide +kernel
theorem dX9_sends_34 : decode cX9_sends 34 = .ok (.invokevirtual 78, 3) := by decide +kernel
theorem dX9_sends_37 : decode cX9_sends 37 = .ok (.ireturn, 1) := by decide +kernel
theorem dX9_sends_38 : decode cX9_sends 38 = .ok (.aload_n 0, 1) := by decide +kernel
theorem dX9_sends_39 : decode cX9_sends 39 = .ok (.iload_n 2, 1) := by decide +kernel
theorem dX9_sends_40 : decode cX9_sends 40 = .ok (.invokevirtual 92, 3) := by decide +kernel
theorem dX9_sends_43 : decode cX9_sends 43 = .ok (.aload_n 3, 1) := by decide +kernel
theorem dX9_sends_44 : decode cX9_sends 44 = .ok (.getfield 195, 3) := by decide +kernel
theorem dX9_sends_47 : decode cX9_sends 47 = .ok (.ifnonnull 8, 3) := by decide +kernel
theorem dX9_sends_50 : decode cX9_sends 50 = .ok (.bipush (-9), 2) := by decide +kernel
theorem dX9_sends_52 : decode cX9_sends 52 = .ok (.goto 10, 3) := by decide +kernel
theorem dX9_sends_55 : decode cX9_sends 55 = .ok (.aload_n 3, 1) := by decide +kernel
theorem dX9_sends_56 : decode cX9_sends 56 = .ok (.getfield 195, 3) := by decide +kernel
theorem dX9_sends_59 : decode cX9_sends 59 = .ok (.getfield 150, 3) := by decide +kernel
theorem dX9_sends_62 : decode cX9_sends 62 = .ok (.ireturn, 1) := by decide +kernel
theorem dX9_feed_0 : decode cX9_feed 0 = .ok (.iload_n 1, 1) := by decide +kernel
theorem dX9_feed_1 : decode cX9_feed 1 = .ok (.iconst 1, 1) := by decide +kernel
theorem dX9_feed_2 : decode cX9_feed 2 = .ok (.if_icmp .ge 10, 3) := by decide +kernel
theorem dX9_feed_5 : decode cX9_feed 5 = .ok (.aload_n 0, 1) := by decide +kernel
theorem dX9_feed_6 : decode cX9_feed 6 = .ok (.bipush (-4), 2) := by decide +kernel
theorem dX9_feed_8 : decode cX9_feed 8 = .ok (.invokevirtual 78, 3) := by decide +kernel
theorem dX9_feed_11 : decode cX9_feed 11 = .ok (.ireturn, 1) := by decide +kernel
theorem dX9_feed_12 : decode cX9_feed 12 = .ok (.iload_n 1, 1) := by decide +kernel
theorem dX9_feed_13 : decode cX9_feed 13 = .ok (.bipush 8, 2) := by decide +kernel
theorem dX9_feed_15 : decode cX9_feed 15 = .ok (.if_icmp .gt 17, 3) := by decide +kernel
theorem dX9_feed_18 : decode cX9_feed 18 = .ok (.aload_n 0, 1) := by decide +kernel
theorem dX9_feed_19 : decode cX9_feed 19 = .ok (.getfield 48, 3) := by decide +kernel
theorem dX9_feed_22 : decode cX9_feed 22 = .ok (.getfield 198, 3) := by decide +kernel
theorem dX9_feed_25 : decode cX9_feed 25 = .ok (.iload_n 1, 1) := by decide +kernel
theorem dX9_feed_26 : decode cX9_feed 26 = .ok (.iadd, 1) := by decide +kernel
theorem dX9_feed_27 : decode cX9_feed 27 = .ok (.bipush 60, 2) := by decide +kernel
theorem dX9_feed_29 : decode cX9_feed 29 = .ok (.if_icmp .le 10, 3) := by decide +kernel
theorem dX9_feed_32 : decode cX9_feed 32 = .ok (.aload_n 0, 1) := by decide +kernel
theorem dX9_feed_33 : decode cX9_feed 33 = .ok (.bipush (-6), 2) := by decide +kernel
theorem dX9_feed_35 : decode cX9_feed 35 = .ok (.invokevirtual 78, 3) := by decide +kernel
theorem dX9_feed_38 : decode cX9_feed 38 = .ok (.ireturn, 1) := by decide +kernel
theorem dX9_feed_39 : decode cX9_feed 39 = .ok (.iconst 0, 1) := by decide +kernel
theorem dX9_feed_40 : decode cX9_feed 40 = .ok (.istore 4, 2) := by decide +kernel
theorem dX9_feed_42 : decode cX9_feed 42 = .ok (.iload 4, 2) := by decide +kernel
theorem dX9_feed_44 : decode cX9_feed 44 = .ok (.iload_n 1, 1) := by decide +kernel
theorem dX9_feed_45 : decode cX9_feed 45 = .ok (.if_icmp .ge 28, 3) := by decide +kernel
theorem dX9_feed_48 : decode cX9_feed 48 = .ok (.aload_n 0, 1) := by decide +kernel
theorem dX9_feed_49 : decode cX9_feed 49 = .ok (.getfield 48, 3) := by decide +kernel
theorem dX9_feed_52 : decode cX9_feed 52 = .ok (.lload_n 2, 1) := by decide +kernel
theorem dX9_feed_53 : decode cX9_feed 53 = .ok (.bipush 8, 2) := by decide +kernel
theorem dX9_feed_55 : decode cX9_feed 55 = .ok (.iload 4, 2) := by decide +kernel
theorem dX9_feed_57 : decode cX9_feed 57 = .ok (.imul, 1) := by decide +kernel
theorem dX9_feed_58 : decode cX9_feed 58 = .ok (.lshr, 1) := by decide +kernel
theorem dX9_feed_59 : decode cX9_feed 59 = .ok (.ldc2_w 200, 3) := by decide +kernel
theorem dX9_feed_62 : decode cX9_feed 62 = .ok (.land, 1) := by decide +kernel
theorem dX9_feed_63 : decode cX9_feed 63 = .ok (.l2i, 1) := by decide +kernel
theorem dX9_feed_64 : decode cX9_feed 64 = .ok (.invokevirtual 202, 3) := by decide +kernel
theorem dX9_feed_67 : decode cX9_feed 67 = .ok (.iinc 4 1, 3) := by decide +kernel
theorem dX9_feed_70 : decode cX9_feed 70 = .ok (.goto (-28), 3) := by decide +kernel
theorem dX9_feed_73 : decode cX9_feed 73 = .ok (.aload_n 0, 1) := by decide +kernel
theorem dX9_feed_74 : decode cX9_feed 74 = .ok (.getfield 48, 3) := by decide +kernel
theorem dX9_feed_77 : decode cX9_feed 77 = .ok (.getfield 198, 3) := by decide +kernel
theorem dX9_feed_80 : decode cX9_feed 80 = .ok (.ireturn, 1) := by decide +kernel
theorem dX9_rule_0 : decode cX9_rule 0 = .ok (.iload_n 1, 1) := by decide +kernel
theorem dX9_rule_1 : decode cX9_rule 1 = .ok (.ifCond .lt 8, 3) := by decide +kernel
theorem dX9_rule_4 : decode cX9_rule 4 = .ok (.iload_n 1, 1) := by decide +kernel
theorem dX9_rule_5 : decode cX9_rule 5 = .ok (.iconst 3, 1) := by decide +kernel
theorem dX9_rule_6 : decode cX9_rule 6 = .ok (.if_icmp .le 10, 3) := by decide +kernel
theorem dX9_rule_9 : decode cX9_rule 9 = .ok (.aload_n 0, 1) := by decide +kernel
theorem dX9_rule_10 : decode cX9_rule 10 = .ok (.bipush (-2), 2) := by decide +kernel
theorem dX9_rule_12 : decode cX9_rule 12 = .ok (.invokevirtual 78, 3) := by decide +kernel
theorem dX9_rule_15 : decode cX9_rule 15 = .ok (.ireturn, 1) := by decide +kernel
theorem dX9_rule_16 : decode cX9_rule 16 = .ok (.iload_n 2, 1) := by decide +kernel
theorem dX9_rule_17 : decode cX9_rule 17 = .ok (.aload_n 0, 1) := by decide +kernel
theorem dX9_rule_18 : decode cX9_rule 18 = .ok (.getfield 10, 3) := by decide +kernel
theorem dX9_rule_21 : decode cX9_rule 21 = .ok (.getfield 71, 3) := by decide +kernel
theorem dX9_rule_24 : decode cX9_rule 24 = .ok (.if_icmp .ge 10, 3) := by decide +kernel
theorem dX9_rule_27 : decode cX9_rule 27 = .ok (.aload_n 0, 1) := by decide +kernel
theorem dX9_rule_28 : decode cX9_rule 28 = .ok (.bipush (-4), 2) := by decide +kernel
theorem dX9_rule_30 : decode cX9_rule 30 = .ok (.invokevirtual 78, 3) := by decide +kernel
theorem dX9_rule_33 : decode cX9_rule 33 = .ok (.ireturn, 1) := by decide +kernel
theorem dX9_rule_34 : decode cX9_rule 34 = .ok (.iload_n 2, 1) := by decide +kernel
theorem dX9_rule_35 : decode cX9_rule 35 = .ok (.sipush 1500, 3) := by decide +kernel
theorem dX9_rule_38 : decode cX9_rule 38 = .ok (.if_icmp .gt 15, 3) := by decide +kernel
theorem dX9_rule_41 : decode cX9_rule 41 = .ok (.aload_n 0, 1) := by decide +kernel
theorem dX9_rule_42 : decode cX9_rule 42 = .ok (.getfield 41, 3) := by decide +kernel
theorem dX9_rule_45 : decode cX9_rule 45 = .ok (.invokevirtual 205, 3) := by decide +kernel
theorem dX9_rule_48 : decode cX9_rule 48 = .ok (.bipush 30, 2) := by decide +kernel
theorem dX9_rule_50 : decode cX9_rule 50 = .ok (.if_icmp .lt 10, 3) := by decide +kernel
theorem dX9_rule_53 : decode cX9_rule 53 = .ok (.aload_n 0, 1) := by decide +kernel
theorem dX9_rule_54 : decode cX9_rule 54 = .ok (.bipush (-6), 2) := by decide +kernel
theorem dX9_rule_56 : decode cX9_rule 56 = .ok (.invokevirtual 78, 3) := by decide +kernel
theorem dX9_rule_59 : decode cX9_rule 59 = .ok (.ireturn, 1) := by decide +kernel
theorem dX9_rule_60 : decode cX9_rule 60 = .ok (.aload_n 0, 1) := by decide +kernel
theorem dX9_rule_61 : decode cX9_rule 61 = .ok (.getfield 48, 3) := by decide +kernel
theorem dX9_rule_64 : decode cX9_rule 64 = .ok (.invokevirtual 206, 3) := by decide +kernel
theorem dX9_rule_67 : decode cX9_rule 67 = .ok (.istore_n 3, 1) := by decide +kernel
theorem dX9_rule_68 : decode cX9_rule 68 = .ok (.aload_n 0, 1) := by decide +kernel
theorem dX9_rule_69 : decode cX9_rule 69 = .ok (.getfield 48, 3) := by decide +kernel
theorem dX9_rule_72 : decode cX9_rule 72 = .ok (.invokevirtual 209, 3) := by decide +kernel
theorem dX9_rule_75 : decode cX9_rule 75 = .ok (.iload_n 3, 1) := by decide +kernel
theorem dX9_rule_76 : decode cX9_rule 76 = .ok (.bipush (-9), 2) := by decide +kernel
theorem dX9_rule_78 : decode cX9_rule 78 = .ok (.if_icmp .eq 8, 3) := by decide +kernel
theorem dX9_rule_81 : decode cX9_rule 81 = .ok (.bipush (-20), 2) := by decide +kernel
theorem dX9_rule_83 : decode cX9_rule 83 = .ok (.iload_n 3, 1) := by decide +kernel
theorem dX9_rule_84 : decode cX9_rule 84 = .ok (.isub, 1) := by decide +kernel
theorem dX9_rule_85 : decode cX9_rule 85 = .ok (.ireturn, 1) := by decide +kernel
theorem dX9_rule_86 : decode cX9_rule 86 = .ok (.aload_n 0, 1) := by decide +kernel
theorem dX9_rule_87 : decode cX9_rule 87 = .ok (.getfield 41, 3) := by decide +kernel
theorem dX9_rule_90 : decode cX9_rule 90 = .ok (.new 212, 3) := by decide +kernel
theorem dX9_rule_93 : decode cX9_rule 93 = .ok (.dup, 1) := by decide +kernel
theorem dX9_rule_94 : decode cX9_rule 94 = .ok (.iload_n 1, 1) := by decide +kernel
theorem dX9_rule_95 : decode cX9_rule 95 = .ok (.iload_n 2, 1) := by decide +kernel
theorem dX9_rule_96 : decode cX9_rule 96 = .ok (.aload_n 0, 1) := by decide +kernel
theorem dX9_rule_97 : decode cX9_rule 97 = .ok (.getfield 48, 3) := by decide +kernel
theorem dX9_rule_100 : decode cX9_rule 100 = .ok (.invokevirtual 214, 3) := by decide +kernel
theorem dX9_rule_103 : decode cX9_rule 103 = .ok (.invokespecial 218, 3) := by decide +kernel
theorem dX9_rule_106 : decode cX9_rule 106 = .ok (.invokevirtual 221, 3) := by decide +kernel
theorem dX9_rule_109 : decode cX9_rule 109 = .ok (.ireturn, 1) := by decide +kernel
theorem dX9_line_0 : decode cX9_line 0 = .ok (.iload_n 1, 1) := by decide +kernel
theorem dX9_line_1 : decode cX9_line 1 = .ok (.ifCond .lt 8, 3) := by decide +kernel
theorem dX9_line_4 : decode cX9_line 4 = .ok (.iload_n 1, 1) := by decide +kernel
theorem dX9_line_5 : decode cX9_line 5 = .ok (.iconst 3, 1) := by decide +kernel
theorem dX9_line_6 : decode cX9_line 6 = .ok (.if_icmp .le 10, 3) := by decide +kernel
theorem dX9_line_9 : decode cX9_line 9 = .ok (.aload_n 0, 1) := by decide +kernel
theorem dX9_line_10 : decode cX9_line 10 = .ok (.bipush (-2), 2) := by decide +kernel
theorem dX9_line_12 : decode cX9_line 12 = .ok (.invokevirtual 78, 3) := by decide +kernel
theorem dX9_line_15 : decode cX9_line 15 = .ok (.ireturn, 1) := by decide +kernel
theorem dX9_line_16 : decode cX9_line 16 = .ok (.aload_n 0, 1) := by decide +kernel
theorem dX9_line_17 : decode cX9_line 17 = .ok (.iload_n 2, 1) := by decide +kernel
theorem dX9_line_18 : decode cX9_line 18 = .ok (.invokevirtual 155, 3) := by decide +kernel
theorem dX9_line_21 : decode cX9_line 21 = .ok (.astore 7, 2) := by decide +kernel
theorem dX9_line_23 : decode cX9_line 23 = .ok (.aload_n 0, 1) := by decide +kernel
theorem dX9_line_24 : decode cX9_line 24 = .ok (.iload_n 3, 1) := by decide +kernel
theorem dX9_line_25 : decode cX9_line 25 = .ok (.invokevirtual 155, 3) := by decide +kernel
theorem dX9_line_28 : decode cX9_line 28 = .ok (.astore 8, 2) := by decide +kernel
theorem dX9_line_30 : decode cX9_line 30 = .ok (.aload 7, 2) := by decide +kernel
theorem dX9_line_32 : decode cX9_line 32 = .ok (.ifnull 15, 3) := by decide +kernel
theorem dX9_line_35 : decode cX9_line 35 = .ok (.aload 8, 2) := by decide +kernel
theorem dX9_line_37 : decode cX9_line 37 = .ok (.ifnull 10, 3) := by decide +kernel
theorem dX9_line_40 : decode cX9_line 40 = .ok (.aload 7, 2) := by decide +kernel
theorem dX9_line_42 : decode cX9_line 42 = .ok (.aload 8, 2) := by decide +kernel
theorem dX9_line_44 : decode cX9_line 44 = .ok (.if_acmp .ne 9, 3) := by decide +kernel
theorem dX9_line_47 : decode cX9_line 47 = .ok (.aload_n 0, 1) := by decide +kernel
theorem dX9_line_48 : decode cX9_line 48 = .ok (.iconst (-1), 1) := by decide +kernel
theorem dX9_line_49 : decode cX9_line 49 = .ok (.invokevirtual 78, 3) := by decide +kernel
theorem dX9_line_52 : decode cX9_line 52 = .ok (.ireturn, 1) := by decide +kernel
theorem dX9_line_53 : decode cX9_line 53 = .ok (.iload_n 1, 1) := by decide +kernel
theorem dX9_line_54 : decode cX9_line 54 = .ok (.ifCond .ne 7, 3) := by decide +kernel
theorem dX9_line_57 : decode cX9_line 57 = .ok (.iconst 1, 1) := by decide +kernel
theorem dX9_line_58 : decode cX9_line 58 = .ok (.goto 4, 3) := by decide +kernel
theorem dX9_line_61 : decode cX9_line 61 = .ok (.iconst 0, 1) := by decide +kernel
theorem dX9_line_62 : decode cX9_line 62 = .ok (.istore 9, 2) := by decide +kernel
theorem dX9_line_64 : decode cX9_line 64 = .ok (.iload 4, 2) := by decide +kernel
theorem dX9_line_66 : decode cX9_line 66 = .ok (.iconst 1, 1) := by decide +kernel
theorem dX9_line_67 : decode cX9_line 67 = .ok (.if_icmp .lt 26, 3) := by decide +kernel
theorem dX9_line_70 : decode cX9_line 70 = .ok (.iload 5, 2) := by decide +kernel
theorem dX9_line_72 : decode cX9_line 72 = .ok (.aload_n 0, 1) := by decide +kernel
theorem dX9_line_73 : decode cX9_line 73 = .ok (.getfield 10, 3) := by decide +kernel
theorem dX9_line_76 : decode cX9_line 76 = .ok (.getfield 71, 3) := by decide +kernel
theorem dX9_line_79 : decode cX9_line 79 = .ok (.if_icmp .lt 14, 3) := by decide +kernel
theorem dX9_line_82 : decode cX9_line 82 = .ok (.iload 9, 2) := by decide +kernel
theorem dX9_line_84 : decode cX9_line 84 = .ok (.ifCond .ne 16, 3) := by decide +kernel
theorem dX9_line_87 : decode cX9_line 87 = .ok (.iload 6, 2) := by decide +kernel
theorem dX9_line_89 : decode cX9_line 89 = .ok (.iconst 1, 1) := by decide +kernel
theorem dX9_line_90 : decode cX9_line 90 = .ok (.if_icmp .ge 10, 3) := by decide +kernel
theorem dX9_line_93 : decode cX9_line 93 = .ok (.aload_n 0, 1) := by decide +kernel
theorem dX9_line_94 : decode cX9_line 94 = .ok (.bipush (-4), 2) := by decide +kernel
theorem dX9_line_96 : decode cX9_line 96 = .ok (.invokevirtual 78, 3) := by decide +kernel
theorem dX9_line_99 : decode cX9_line 99 = .ok (.ireturn, 1) := by decide +kernel
theorem dX9_line_100 : decode cX9_line 100 = .ok (.iload 4, 2) := by decide +kernel
theorem dX9_line_102 : decode cX9_line 102 = .ok (.ldc 162, 2) := by decide +kernel
theorem dX9_line_104 : decode cX9_line 104 = .ok (.if_icmp .gt 35, 3) := by decide +kernel
theorem dX9_line_107 : decode cX9_line 107 = .ok (.iload 5, 2) := by decide +kernel
theorem dX9_line_109 : decode cX9_line 109 = .ok (.sipush 1500, 3) := by decide +kernel
theorem dX9_line_112 : decode cX9_line 112 = .ok (.if_icmp .gt 27, 3) := by decide +kernel
theorem dX9_line_115 : decode cX9_line 115 = .ok (.iload 9, 2) := by decide +kernel
theorem dX9_line_117 : decode cX9_line 117 = .ok (.ifCond .ne 10, 3) := by decide +kernel
theorem dX9_line_120 : decode cX9_line 120 = .ok (.iload 6, 2) := by decide +kernel
theorem dX9_line_122 : decode cX9_line 122 = .ok (.bipush 90, 2) := by decide +kernel
theorem dX9_line_124 : decode cX9_line 124 = .ok (.if_icmp .gt 15, 3) := by decide +kernel
theorem dX9_line_127 : decode cX9_line 127 = .ok (.aload_n 0, 1) := by decide +kernel
theorem dX9_line_128 : decode cX9_line 128 = .ok (.getfield 32, 3) := by decide +kernel
theorem dX9_line_131 : decode cX9_line 131 = .ok (.invokevirtual 142, 3) := by decide +kernel
theorem dX9_line_134 : decode cX9_line 134 = .ok (.bipush 60, 2) := by decide +kernel
theorem dX9_line_136 : decode cX9_line 136 = .ok (.if_icmp .lt 10, 3) := by decide +kernel
theorem dX9_line_139 : decode cX9_line 139 = .ok (.aload_n 0, 1) := by decide +kernel
theorem dX9_line_140 : decode cX9_line 140 = .ok (.bipush (-6), 2) := by decide +kernel
theorem dX9_line_142 : decode cX9_line 142 = .ok (.invokevirtual 78, 3) := by decide +kernel
theorem dX9_line_145 : decode cX9_line 145 = .ok (.ireturn, 1) := by decide +kernel
theorem dX9_line_146 : decode cX9_line 146 = .ok (.new 224, 3) := by decide +kernel
theorem dX9_line_149 : decode cX9_line 149 = .ok (.dup, 1) := by decide +kernel
theorem dX9_line_150 : decode cX9_line 150 = .ok (.iload_n 1, 1) := by decide +kernel
theorem dX9_line_151 : decode cX9_line 151 = .ok (.aload 7, 2) := by decide +kernel
theorem dX9_line_153 : decode cX9_line 153 = .ok (.aload 8, 2) := by decide +kernel
theorem dX9_line_155 : decode cX9_line 155 = .ok (.iload 4, 2) := by decide +kernel
theorem dX9_line_157 : decode cX9_line 157 = .ok (.iload 5, 2) := by decide +kernel
theorem dX9_line_159 : decode cX9_line 159 = .ok (.iload 9, 2) := by decide +kernel
theorem dX9_line_161 : decode cX9_line 161 = .ok (.ifCond .eq 7, 3) := by decide +kernel
theorem dX9_line_164 : decode cX9_line 164 = .ok (.iconst 0, 1) := by decide +kernel
theorem dX9_line_165 : decode cX9_line 165 = .ok (.goto 5, 3) := by decide +kernel
theorem dX9_line_168 : decode cX9_line 168 = .ok (.iload 6, 2) := by decide +kernel
theorem dX9_line_170 : decode cX9_line 170 = .ok (.invokespecial 226, 3) := by decide +kernel
theorem dX9_line_173 : decode cX9_line 173 = .ok (.astore 10, 2) := by decide +kernel
theorem dX9_line_175 : decode cX9_line 175 = .ok (.aload_n 0, 1) := by decide +kernel
theorem dX9_line_176 : decode cX9_line 176 = .ok (.getfield 32, 3) := by decide +kernel
theorem dX9_line_179 : decode cX9_line 179 = .ok (.aload 10, 2) := by decide +kernel
theorem dX9_line_181 : decode cX9_line 181 = .ok (.invokevirtual 229, 3) := by decide +kernel
theorem dX9_line_184 : decode cX9_line 184 = .ok (.pop, 1) := by decide +kernel
theorem dX9_line_185 : decode cX9_line 185 = .ok (.aload_n 0, 1) := by decide +kernel
theorem dX9_line_186 : decode cX9_line 186 = .ok (.getfield 32, 3) := by decide +kernel
theorem dX9_line_189 : decode cX9_line 189 = .ok (.invokevirtual 142, 3) := by decide +kernel
theorem dX9_line_192 : decode cX9_line 192 = .ok (.iconst 1, 1) := by decide +kernel
theorem dX9_line_193 : decode cX9_line 193 = .ok (.isub, 1) := by decide +kernel
theorem dX9_line_194 : decode cX9_line 194 = .ok (.ireturn, 1) := by decide +kernel
theorem dX9_end_0 : decode cX9_end 0 = .ok (.aload_n 0, 1) := by decide +kernel
theorem dX9_end_1 : decode cX9_end 1 = .ok (.iload_n 1, 1) := by decide +kernel
theorem dX9_end_2 : decode cX9_end 2 = .ok (.invokevirtual 232, 3) := by decide +kernel
theorem dX9_end_5 : decode cX9_end 5 = .ok (.astore_n 2, 1) := by decide +kernel
theorem dX9_end_6 : decode cX9_end 6 = .ok (.aload_n 2, 1) := by decide +kernel
theorem dX9_end_7 : decode cX9_end 7 = .ok (.ifnonnull 9, 3) := by decide +kernel
theorem dX9_end_10 : decode cX9_end 10 = .ok (.aload_n 0, 1) := by decide +kernel
theorem dX9_end_11 : decode cX9_end 11 = .ok (.iconst (-1), 1) := by decide +kernel
theorem dX9_end_12 : decode cX9_end 12 = .ok (.invokevirtual 78, 3) := by decide +kernel
theorem dX9_end_15 : decode cX9_end 15 = .ok (.ireturn, 1) := by decide +kernel
theorem dX9_end_16 : decode cX9_end 16 = .ok (.aload_n 2, 1) := by decide +kernel
theorem dX9_end_17 : decode cX9_end 17 = .ok (.getfield 236, 3) := by decide +kernel
theorem dX9_end_20 : decode cX9_end 20 = .ok (.ifCond .eq 10, 3) := by decide +kernel
theorem dX9_end_23 : decode cX9_end 23 = .ok (.aload_n 0, 1) := by decide +kernel
theorem dX9_end_24 : decode cX9_end 24 = .ok (.bipush (-3), 2) := by decide +kernel
theorem dX9_end_26 : decode cX9_end 26 = .ok (.invokevirtual 78, 3) := by decide +kernel
theorem dX9_end_29 : decode cX9_end 29 = .ok (.ireturn, 1) := by decide +kernel
theorem dX9_end_30 : decode cX9_end 30 = .ok (.aload_n 2, 1) := by decide +kernel
theorem dX9_end_31 : decode cX9_end 31 = .ok (.iconst 1, 1) := by decide +kernel
theorem dX9_end_32 : decode cX9_end 32 = .ok (.putfield 236, 3) := by decide +kernel
theorem dX9_end_35 : decode cX9_end 35 = .ok (.aload_n 2, 1) := by decide +kernel
theorem dX9_end_36 : decode cX9_end 36 = .ok (.aload_n 0, 1) := by decide +kernel
theorem dX9_end_37 : decode cX9_end 37 = .ok (.getfield 10, 3) := by decide +kernel
theorem dX9_end_40 : decode cX9_end 40 = .ok (.getfield 71, 3) := by decide +kernel
theorem dX9_end_43 : decode cX9_end 43 = .ok (.putfield 240, 3) := by decide +kernel
theorem dX9_end_46 : decode cX9_end 46 = .ok (.iconst 1, 1) := by decide +kernel
theorem dX9_end_47 : decode cX9_end 47 = .ok (.ireturn, 1) := by decide +kernel
theorem dX9_lineOf_0 : decode cX9_lineOf 0 = .ok (.aload_n 0, 1) := by decide +kernel
theorem dX9_lineOf_1 : decode cX9_lineOf 1 = .ok (.iload_n 1, 1) := by decide +kernel
theorem dX9_lineOf_2 : decode cX9_lineOf 2 = .ok (.invokevirtual 232, 3) := by decide +kernel
theorem dX9_lineOf_5 : decode cX9_lineOf 5 = .ok (.astore_n 3, 1) := by decide +kernel
theorem dX9_lineOf_6 : decode cX9_lineOf 6 = .ok (.aload_n 3, 1) := by decide +kernel
theorem dX9_lineOf_7 : decode cX9_lineOf 7 = .ok (.ifnonnull 9, 3) := by decide +kernel
theorem dX9_lineOf_10 : decode cX9_lineOf 10 = .ok (.aload_n 0, 1) := by decide +kernel
theorem dX9_lineOf_11 : decode cX9_lineOf 11 = .ok (.iconst (-1), 1) := by decide +kernel
theorem dX9_lineOf_12 : decode cX9_lineOf 12 = .ok (.invokevirtual 78, 3) := by decide +kernel
theorem dX9_lineOf_15 : decode cX9_lineOf 15 = .ok (.ireturn, 1) := by decide +kernel
theorem dX9_lineOf_16 : decode cX9_lineOf 16 = .ok (.iload_n 2, 1) := by decide +kernel
theorem dX9_lineOf_17 : decode cX9_lineOf 17 = .ok (.tableswitch 106 0 8 #[51, 56, 64, 72, 77, 83, 89, 95, 101], 51) := by decide +kernel
theorem dX9_lineOf_68 : decode cX9_lineOf 68 = .ok (.aload_n 3, 1) := by decide +kernel
theorem dX9_lineOf_69 : decode cX9_lineOf 69 = .ok (.getfield 243, 3) := by decide +kernel
theorem dX9_lineOf_72 : decode cX9_lineOf 72 = .ok (.ireturn, 1) := by decide +kernel
theorem dX9_lineOf_73 : decode cX9_lineOf 73 = .ok (.aload_n 3, 1) := by decide +kernel
theorem dX9_lineOf_74 : decode cX9_lineOf 74 = .ok (.getfield 246, 3) := by decide +kernel
theorem dX9_lineOf_77 : decode cX9_lineOf 77 = .ok (.getfield 150, 3) := by decide +kernel
theorem dX9_lineOf_80 : decode cX9_lineOf 80 = .ok (.ireturn, 1) := by decide +kernel
theorem dX9_lineOf_81 : decode cX9_lineOf 81 = .ok (.aload_n 3, 1) := by decide +kernel
theorem dX9_lineOf_82 : decode cX9_lineOf 82 = .ok (.getfield 249, 3) := by decide +kernel
theorem dX9_lineOf_85 : decode cX9_lineOf 85 = .ok (.getfield 150, 3) := by decide +kernel
theorem dX9_lineOf_88 : decode cX9_lineOf 88 = .ok (.ireturn, 1) := by decide +kernel
theorem dX9_lineOf_89 : decode cX9_lineOf 89 = .ok (.aload_n 3, 1) := by decide +kernel
theorem dX9_lineOf_90 : decode cX9_lineOf 90 = .ok (.getfield 252, 3) := by decide +kernel
theorem dX9_lineOf_93 : decode cX9_lineOf 93 = .ok (.ireturn, 1) := by decide +kernel
theorem dX9_lineOf_94 : decode cX9_lineOf 94 = .ok (.aload_n 3, 1) := by decide +kernel
theorem dX9_lineOf_95 : decode cX9_lineOf 95 = .ok (.iconst 1, 1) := by decide +kernel
theorem dX9_lineOf_96 : decode cX9_lineOf 96 = .ok (.invokevirtual 255, 3) := by decide +kernel
theorem dX9_lineOf_99 : decode cX9_lineOf 99 = .ok (.ireturn, 1) := by decide +kernel
theorem dX9_lineOf_100 : decode cX9_lineOf 100 = .ok (.aload_n 3, 1) := by decide +kernel
theorem dX9_lineOf_101 : decode cX9_lineOf 101 = .ok (.iconst 2, 1) := by decide +kernel
theorem dX9_lineOf_102 : decode cX9_lineOf 102 = .ok (.invokevirtual 255, 3) := by decide +kernel
theorem dX9_lineOf_105 : decode cX9_lineOf 105 = .ok (.ireturn, 1) := by decide +kernel
theorem dX9_lineOf_106 : decode cX9_lineOf 106 = .ok (.aload_n 3, 1) := by decide +kernel
theorem dX9_lineOf_107 : decode cX9_lineOf 107 = .ok (.iconst 3, 1) := by decide +kernel
theorem dX9_lineOf_108 : decode cX9_lineOf 108 = .ok (.invokevirtual 255, 3) := by decide +kernel
theorem dX9_lineOf_111 : decode cX9_lineOf 111 = .ok (.ireturn, 1) := by decide +kernel
theorem dX9_lineOf_112 : decode cX9_lineOf 112 = .ok (.aload_n 3, 1) := by decide +kernel
theorem dX9_lineOf_113 : decode cX9_lineOf 113 = .ok (.iconst 4, 1) := by decide +kernel
theorem dX9_lineOf_114 : decode cX9_lineOf 114 = .ok (.invokevirtual 255, 3) := by decide +kernel
theorem dX9_lineOf_117 : decode cX9_lineOf 117 = .ok (.ireturn, 1) := by decide +kernel
theorem dX9_lineOf_118 : decode cX9_lineOf 118 = .ok (.aload_n 3, 1) := by decide +kernel
theorem dX9_lineOf_119 : decode cX9_lineOf 119 = .ok (.getfield 258, 3) := by decide +kernel
theorem dX9_lineOf_122 : decode cX9_lineOf 122 = .ok (.ireturn, 1) := by decide +kernel
theorem dX9_lineOf_123 : decode cX9_lineOf 123 = .ok (.aload_n 0, 1) := by decide +kernel
theorem dX9_lineOf_124 : decode cX9_lineOf 124 = .ok (.bipush (-2), 2) := by decide +kernel
theorem dX9_lineOf_126 : decode cX9_lineOf 126 = .ok (.invokevirtual 78, 3) := by decide +kernel
theorem dX9_lineOf_129 : decode cX9_lineOf 129 = .ok (.ireturn, 1) := by decide +kernel
theorem dX9_ask_0 : decode cX9_ask 0 = .ok (.aload_n 0, 1) := by decide +kernel
theorem dX9_ask_1 : decode cX9_ask 1 = .ok (.iload_n 1, 1) := by decide +kernel
theorem dX9_ask_2 : decode cX9_ask 2 = .ok (.invokevirtual 155, 3) := by decide +kernel
theorem dX9_ask_5 : decode cX9_ask 5 = .ok (.astore 4, 2) := by decide +kernel
theorem dX9_ask_7 : decode cX9_ask 7 = .ok (.aload_n 0, 1) := by decide +kernel
theorem dX9_ask_8 : decode cX9_ask 8 = .ok (.iload_n 2, 1) := by decide +kernel
theorem dX9_ask_9 : decode cX9_ask 9 = .ok (.invokevirtual 110, 3) := by decide +kernel
theorem dX9_ask_12 : decode cX9_ask 12 = .ok (.astore 5, 2) := by decide +kernel
theorem dX9_ask_14 : decode cX9_ask 14 = .ok (.aload 4, 2) := by decide +kernel
theorem dX9_ask_16 : decode cX9_ask 16 = .ok (.ifnull 8, 3) := by decide +kernel
theorem dX9_ask_19 : decode cX9_ask 19 = .ok (.aload 5, 2) := by decide +kernel
theorem dX9_ask_21 : decode cX9_ask 21 = .ok (.ifnonnull 9, 3) := by decide +kernel
theorem dX9_ask_24 : decode cX9_ask 24 = .ok (.aload_n 0, 1) := by decide +kernel
theorem dX9_ask_25 : decode cX9_ask 25 = .ok (.iconst (-1), 1) := by decide +kernel
theorem dX9_ask_26 : decode cX9_ask 26 = .ok (.invokevirtual 78, 3) := by decide +kernel
theorem dX9_ask_29 : decode cX9_ask 29 = .ok (.ireturn, 1) := by decide +kernel
theorem dX9_ask_30 : decode cX9_ask 30 = .ok (.aload 4, 2) := by decide +kernel
theorem dX9_ask_32 : decode cX9_ask 32 = .ok (.getfield 159, 3) := by decide +kernel
theorem dX9_ask_35 : decode cX9_ask 35 = .ok (.ifCond .ne 33, 3) := by decide +kernel
theorem dX9_ask_38 : decode cX9_ask 38 = .ok (.aload_n 0, 1) := by decide +kernel
theorem dX9_ask_39 : decode cX9_ask 39 = .ok (.aload 4, 2) := by decide +kernel
theorem dX9_ask_41 : decode cX9_ask 41 = .ok (.invokevirtual 169, 3) := by decide +kernel
theorem dX9_ask_44 : decode cX9_ask 44 = .ok (.ifCond .ne 24, 3) := by decide +kernel
theorem dX9_ask_47 : decode cX9_ask 47 = .ok (.aload 4, 2) := by decide +kernel
theorem dX9_ask_49 : decode cX9_ask 49 = .ok (.getfield 176, 3) := by decide +kernel
theorem dX9_ask_52 : decode cX9_ask 52 = .ok (.aload 5, 2) := by decide +kernel
theorem dX9_ask_54 : decode cX9_ask 54 = .ok (.if_acmp .eq 14, 3) := by decide +kernel
theorem dX9_ask_57 : decode cX9_ask 57 = .ok (.aload_n 0, 1) := by decide +kernel
theorem dX9_ask_58 : decode cX9_ask 58 = .ok (.aload 4, 2) := by decide +kernel
theorem dX9_ask_60 : decode cX9_ask 60 = .ok (.aload 5, 2) := by decide +kernel
theorem dX9_ask_62 : decode cX9_ask 62 = .ok (.invokevirtual 261, 3) := by decide +kernel
theorem dX9_ask_65 : decode cX9_ask 65 = .ok (.ifCond .ne 10, 3) := by decide +kernel
theorem dX9_ask_68 : decode cX9_ask 68 = .ok (.aload_n 0, 1) := by decide +kernel
theorem dX9_ask_69 : decode cX9_ask 69 = .ok (.bipush (-3), 2) := by decide +kernel
theorem dX9_ask_71 : decode cX9_ask 71 = .ok (.invokevirtual 78, 3) := by decide +kernel
theorem dX9_ask_74 : decode cX9_ask 74 = .ok (.ireturn, 1) := by decide +kernel
theorem dX9_ask_75 : decode cX9_ask 75 = .ok (.aload_n 0, 1) := by decide +kernel
theorem dX9_ask_76 : decode cX9_ask 76 = .ok (.getfield 35, 3) := by decide +kernel
theorem dX9_ask_79 : decode cX9_ask 79 = .ok (.invokevirtual 142, 3) := by decide +kernel
theorem dX9_ask_82 : decode cX9_ask 82 = .ok (.bipush 30, 2) := by decide +kernel
theorem dX9_ask_84 : decode cX9_ask 84 = .ok (.if_icmp .ge 15, 3) := by decide +kernel
theorem dX9_ask_87 : decode cX9_ask 87 = .ok (.aload_n 0, 1) := by decide +kernel
theorem dX9_ask_88 : decode cX9_ask 88 = .ok (.getfield 28, 3) := by decide +kernel
theorem dX9_ask_91 : decode cX9_ask 91 = .ok (.invokevirtual 142, 3) := by decide +kernel
theorem dX9_ask_94 : decode cX9_ask 94 = .ok (.bipush 40, 2) := by decide +kernel
theorem dX9_ask_96 : decode cX9_ask 96 = .ok (.if_icmp .lt 10, 3) := by decide +kernel
theorem dX9_ask_99 : decode cX9_ask 99 = .ok (.aload_n 0, 1) := by decide +kernel
theorem dX9_ask_100 : decode cX9_ask 100 = .ok (.bipush (-6), 2) := by decide +kernel
theorem dX9_ask_102 : decode cX9_ask 102 = .ok (.invokevirtual 78, 3) := by decide +kernel
theorem dX9_ask_105 : decode cX9_ask 105 = .ok (.ireturn, 1) := by decide +kernel
theorem dX9_ask_106 : decode cX9_ask 106 = .ok (.aload_n 0, 1) := by decide +kernel
theorem dX9_ask_107 : decode cX9_ask 107 = .ok (.aload 5, 2) := by decide +kernel
theorem dX9_ask_109 : decode cX9_ask 109 = .ok (.aload 4, 2) := by decide +kernel
theorem dX9_ask_111 : decode cX9_ask 111 = .ok (.getfield 265, 3) := by decide +kernel
theorem dX9_ask_114 : decode cX9_ask 114 = .ok (.aload 4, 2) := by decide +kernel
theorem dX9_ask_116 : decode cX9_ask 116 = .ok (.getfield 268, 3) := by decide +kernel
theorem dX9_ask_119 : decode cX9_ask 119 = .ok (.invokevirtual 146, 3) := by decide +kernel
theorem dX9_ask_122 : decode cX9_ask 122 = .ok (.astore 6, 2) := by decide +kernel
theorem dX9_ask_124 : decode cX9_ask 124 = .ok (.aload_n 0, 1) := by decide +kernel
theorem dX9_ask_125 : decode cX9_ask 125 = .ok (.getfield 35, 3) := by decide +kernel
theorem dX9_ask_128 : decode cX9_ask 128 = .ok (.new 271, 3) := by decide +kernel
theorem dX9_ask_131 : decode cX9_ask 131 = .ok (.dup, 1) := by decide +kernel
theorem dX9_ask_132 : decode cX9_ask 132 = .ok (.aload 4, 2) := by decide +kernel
theorem dX9_ask_134 : decode cX9_ask 134 = .ok (.aload 6, 2) := by decide +kernel
theorem dX9_ask_136 : decode cX9_ask 136 = .ok (.iload_n 3, 1) := by decide +kernel
theorem dX9_ask_137 : decode cX9_ask 137 = .ok (.aload_n 0, 1) := by decide +kernel
theorem dX9_ask_138 : decode cX9_ask 138 = .ok (.getfield 10, 3) := by decide +kernel
theorem dX9_ask_141 : decode cX9_ask 141 = .ok (.getfield 71, 3) := by decide +kernel
theorem dX9_ask_144 : decode cX9_ask 144 = .ok (.invokespecial 273, 3) := by decide +kernel
theorem dX9_ask_147 : decode cX9_ask 147 = .ok (.invokevirtual 229, 3) := by decide +kernel
theorem dX9_ask_150 : decode cX9_ask 150 = .ok (.pop, 1) := by decide +kernel
theorem dX9_ask_151 : decode cX9_ask 151 = .ok (.aload_n 0, 1) := by decide +kernel
theorem dX9_ask_152 : decode cX9_ask 152 = .ok (.getfield 35, 3) := by decide +kernel
theorem dX9_ask_155 : decode cX9_ask 155 = .ok (.invokevirtual 142, 3) := by decide +kernel
theorem dX9_ask_158 : decode cX9_ask 158 = .ok (.iconst 1, 1) := by decide +kernel
theorem dX9_ask_159 : decode cX9_ask 159 = .ok (.isub, 1) := by decide +kernel
theorem dX9_ask_160 : decode cX9_ask 160 = .ok (.ireturn, 1) := by decide +kernel
theorem dX9_agree_0 : decode cX9_agree 0 = .ok (.aload_n 0, 1) := by decide +kernel
theorem dX9_agree_1 : decode cX9_agree 1 = .ok (.iload_n 1, 1) := by decide +kernel
theorem dX9_agree_2 : decode cX9_agree 2 = .ok (.invokevirtual 276, 3) := by decide +kernel
theorem dX9_agree_5 : decode cX9_agree 5 = .ok (.astore_n 2, 1) := by decide +kernel
theorem dX9_agree_6 : decode cX9_agree 6 = .ok (.aload_n 2, 1) := by decide +kernel
theorem dX9_agree_7 : decode cX9_agree 7 = .ok (.ifnonnull 9, 3) := by decide +kernel
theorem dX9_agree_10 : decode cX9_agree 10 = .ok (.aload_n 0, 1) := by decide +kernel
theorem dX9_agree_11 : decode cX9_agree 11 = .ok (.iconst (-1), 1) := by decide +kernel
theorem dX9_agree_12 : decode cX9_agree 12 = .ok (.invokevirtual 78, 3) := by decide +kernel
theorem dX9_agree_15 : decode cX9_agree 15 = .ok (.ireturn, 1) := by decide +kernel
theorem dX9_agree_16 : decode cX9_agree 16 = .ok (.aload_n 2, 1) := by decide +kernel
theorem dX9_agree_17 : decode cX9_agree 17 = .ok (.getfield 280, 3) := by decide +kernel
theorem dX9_agree_20 : decode cX9_agree 20 = .ok (.invokevirtual 283, 3) := by decide +kernel
theorem dX9_agree_23 : decode cX9_agree 23 = .ok (.ifCond .eq 17, 3) := by decide +kernel
theorem dX9_agree_26 : decode cX9_agree 26 = .ok (.aload_n 2, 1) := by decide +kernel
theorem dX9_agree_27 : decode cX9_agree 27 = .ok (.getfield 287, 3) := by decide +kernel
theorem dX9_agree_30 : decode cX9_agree 30 = .ok (.ifCond .ne 10, 3) := by decide +kernel
theorem dX9_agree_33 : decode cX9_agree 33 = .ok (.aload_n 2, 1) := by decide +kernel
theorem dX9_agree_34 : decode cX9_agree 34 = .ok (.getfield 290, 3) := by decide +kernel
theorem dX9_agree_37 : decode cX9_agree 37 = .ok (.ifCond .ne 10, 3) := by decide +kernel
theorem dX9_agree_40 : decode cX9_agree 40 = .ok (.aload_n 0, 1) := by decide +kernel
theorem dX9_agree_41 : decode cX9_agree 41 = .ok (.bipush (-3), 2) := by decide +kernel
theorem dX9_agree_43 : decode cX9_agree 43 = .ok (.invokevirtual 78, 3) := by decide +kernel
theorem dX9_agree_46 : decode cX9_agree 46 = .ok (.ireturn, 1) := by decide +kernel
theorem dX9_agree_47 : decode cX9_agree 47 = .ok (.aload_n 2, 1) := by decide +kernel
theorem dX9_agree_48 : decode cX9_agree 48 = .ok (.iconst 1, 1) := by decide +kernel
theorem dX9_agree_49 : decode cX9_agree 49 = .ok (.putfield 287, 3) := by decide +kernel
theorem dX9_agree_52 : decode cX9_agree 52 = .ok (.iconst 1, 1) := by decide +kernel
theorem dX9_agree_53 : decode cX9_agree 53 = .ok (.ireturn, 1) := by decide +kernel
theorem dX9_takeBack_0 : decode cX9_takeBack 0 = .ok (.aload_n 0, 1) := by decide +kernel
theorem dX9_takeBack_1 : decode cX9_takeBack 1 = .ok (.iload_n 1, 1) := by decide +kernel
theorem dX9_takeBack_2 : decode cX9_takeBack 2 = .ok (.invokevirtual 276, 3) := by decide +kernel
theorem dX9_takeBack_5 : decode cX9_takeBack 5 = .ok (.astore_n 2, 1) := by decide +kernel
theorem dX9_takeBack_6 : decode cX9_takeBack 6 = .ok (.aload_n 2, 1) := by decide +kernel
theorem dX9_takeBack_7 : decode cX9_takeBack 7 = .ok (.ifnonnull 9, 3) := by decide +kernel
theorem dX9_takeBack_10 : decode cX9_takeBack 10 = .ok (.aload_n 0, 1) := by decide +kernel
theorem dX9_takeBack_11 : decode cX9_takeBack 11 = .ok (.iconst (-1), 1) := by decide +kernel
theorem dX9_takeBack_12 : decode cX9_takeBack 12 = .ok (.invokevirtual 78, 3) := by decide +kernel
theorem dX9_takeBack_15 : decode cX9_takeBack 15 = .ok (.ireturn, 1) := by decide +kernel
theorem dX9_takeBack_16 : decode cX9_takeBack 16 = .ok (.aload_n 2, 1) := by decide +kernel
theorem dX9_takeBack_17 : decode cX9_takeBack 17 = .ok (.getfield 290, 3) := by decide +kernel
theorem dX9_takeBack_20 : decode cX9_takeBack 20 = .ok (.ifCond .eq 12, 3) := by decide +kernel
theorem dX9_takeBack_23 : decode cX9_takeBack 23 = .ok (.aload_n 2, 1) := by decide +kernel
theorem dX9_takeBack_24 : decode cX9_takeBack 24 = .ok (.getfield 293, 3) := by decide +kernel
theorem dX9_takeBack_27 : decode cX9_takeBack 27 = .ok (.bipush 6, 2) := by decide +kernel
theorem dX9_takeBack_29 : decode cX9_takeBack 29 = .ok (.if_icmp .lt 10, 3) := by decide +kernel
theorem dX9_takeBack_32 : decode cX9_takeBack 32 = .ok (.aload_n 0, 1) := by decide +kernel
theorem dX9_takeBack_33 : decode cX9_takeBack 33 = .ok (.bipush (-3), 2) := by decide +kernel
theorem dX9_takeBack_35 : decode cX9_takeBack 35 = .ok (.invokevirtual 78, 3) := by decide +kernel
theorem dX9_takeBack_38 : decode cX9_takeBack 38 = .ok (.ireturn, 1) := by decide +kernel
theorem dX9_takeBack_39 : decode cX9_takeBack 39 = .ok (.aload_n 2, 1) := by decide +kernel
theorem dX9_takeBack_40 : decode cX9_takeBack 40 = .ok (.iconst 3, 1) := by decide +kernel
theorem dX9_takeBack_41 : decode cX9_takeBack 41 = .ok (.invokevirtual 296, 3) := by decide +kernel
theorem dX9_takeBack_44 : decode cX9_takeBack 44 = .ok (.iconst 1, 1) := by decide +kernel
theorem dX9_takeBack_45 : decode cX9_takeBack 45 = .ok (.ireturn, 1) := by decide +kernel
theorem dX9_moveOf_0 : decode cX9_moveOf 0 = .ok (.aload_n 0, 1) := by decide +kernel
theorem dX9_moveOf_1 : decode cX9_moveOf 1 = .ok (.iload_n 1, 1) := by decide +kernel
theorem dX9_moveOf_2 : decode cX9_moveOf 2 = .ok (.invokevirtual 276, 3) := by decide +kernel
theorem dX9_moveOf_5 : decode cX9_moveOf 5 = .ok (.astore_n 3, 1) := by decide +kernel
theorem dX9_moveOf_6 : decode cX9_moveOf 6 = .ok (.aload_n 3, 1) := by decide +kernel
theorem dX9_moveOf_7 : decode cX9_moveOf 7 = .ok (.ifnonnull 9, 3) := by decide +kernel
theorem dX9_moveOf_10 : decode cX9_moveOf 10 = .ok (.aload_n 0, 1) := by decide +kernel
theorem dX9_moveOf_11 : decode cX9_moveOf 11 = .ok (.iconst (-1), 1) := by decide +kernel
theorem dX9_moveOf_12 : decode cX9_moveOf 12 = .ok (.invokevirtual 78, 3) := by decide +kernel
theorem dX9_moveOf_15 : decode cX9_moveOf 15 = .ok (.ireturn, 1) := by decide +kernel
theorem dX9_moveOf_16 : decode cX9_moveOf 16 = .ok (.iload_n 2, 1) := by decide +kernel
theorem dX9_moveOf_17 : decode cX9_moveOf 17 = .ok (.tableswitch 125 0 8 #[51, 59, 67, 72, 85, 90, 95, 115, 120], 51) := by decide +kernel
theorem dX9_moveOf_68 : decode cX9_moveOf 68 = .ok (.aload_n 3, 1) := by decide +kernel
theorem dX9_moveOf_69 : decode cX9_moveOf 69 = .ok (.getfield 280, 3) := by decide +kernel
theorem dX9_moveOf_72 : decode cX9_moveOf 72 = .ok (.getfield 150, 3) := by decide +kernel
theorem dX9_moveOf_75 : decode cX9_moveOf 75 = .ok (.ireturn, 1) := by decide +kernel
theorem dX9_moveOf_76 : decode cX9_moveOf 76 = .ok (.aload_n 3, 1) := by decide +kernel
theorem dX9_moveOf_77 : decode cX9_moveOf 77 = .ok (.getfield 299, 3) := by decide +kernel
theorem dX9_moveOf_80 : decode cX9_moveOf 80 = .ok (.getfield 150, 3) := by decide +kernel
theorem dX9_moveOf_83 : decode cX9_moveOf 83 = .ok (.ireturn, 1) := by decide +kernel
theorem dX9_moveOf_84 : decode cX9_moveOf 84 = .ok (.aload_n 3, 1) := by decide +kernel
theorem dX9_moveOf_85 : decode cX9_moveOf 85 = .ok (.getfield 293, 3) := by decide +kernel
theorem dX9_moveOf_88 : decode cX9_moveOf 88 = .ok (.ireturn, 1) := by decide +kernel
theorem dX9_moveOf_89 : decode cX9_moveOf 89 = .ok (.aload_n 3, 1) := by decide +kernel
theorem dX9_moveOf_90 : decode cX9_moveOf 90 = .ok (.getfield 290, 3) := by decide +kernel
theorem dX9_moveOf_93 : decode cX9_moveOf 93 = .ok (.ifCond .eq 7, 3) := by decide +kernel
theorem dX9_moveOf_96 : decode cX9_moveOf 96 = .ok (.iconst 1, 1) := by decide +kernel
theorem dX9_moveOf_97 : decode cX9_moveOf 97 = .ok (.goto 4, 3) := by decide +kernel
theorem dX9_moveOf_100 : decode cX9_moveOf 100 = .ok (.iconst 0, 1) := by decide +kernel
theorem dX9_moveOf_101 : decode cX9_moveOf 101 = .ok (.ireturn, 1) := by decide +kernel
theorem dX9_moveOf_102 : decode cX9_moveOf 102 = .ok (.aload_n 3, 1) := by decide +kernel
theorem dX9_moveOf_103 : decode cX9_moveOf 103 = .ok (.getfield 302, 3) := by decide +kernel
theorem dX9_moveOf_106 : decode cX9_moveOf 106 = .ok (.ireturn, 1) := by decide +kernel
theorem dX9_moveOf_107 : decode cX9_moveOf 107 = .ok (.aload_n 3, 1) := by decide +kernel
theorem dX9_moveOf_108 : decode cX9_moveOf 108 = .ok (.getfield 305, 3) := by decide +kernel
theorem dX9_moveOf_111 : decode cX9_moveOf 111 = .ok (.ireturn, 1) := by decide +kernel
theorem dX9_moveOf_112 : decode cX9_moveOf 112 = .ok (.aload_n 3, 1) := by decide +kernel
theorem dX9_moveOf_113 : decode cX9_moveOf 113 = .ok (.getfield 308, 3) := by decide +kernel
theorem dX9_moveOf_116 : decode cX9_moveOf 116 = .ok (.ifnonnull 8, 3) := by decide +kernel
theorem dX9_moveOf_119 : decode cX9_moveOf 119 = .ok (.bipush (-9), 2) := by decide +kernel
theorem dX9_moveOf_121 : decode cX9_moveOf 121 = .ok (.goto 10, 3) := by decide +kernel
theorem dX9_moveOf_124 : decode cX9_moveOf 124 = .ok (.aload_n 3, 1) := by decide +kernel
theorem dX9_moveOf_125 : decode cX9_moveOf 125 = .ok (.getfield 308, 3) := by decide +kernel
theorem dX9_moveOf_128 : decode cX9_moveOf 128 = .ok (.getfield 180, 3) := by decide +kernel
theorem dX9_moveOf_131 : decode cX9_moveOf 131 = .ok (.ireturn, 1) := by decide +kernel
theorem dX9_moveOf_132 : decode cX9_moveOf 132 = .ok (.aload_n 3, 1) := by decide +kernel
theorem dX9_moveOf_133 : decode cX9_moveOf 133 = .ok (.getfield 311, 3) := by decide +kernel
theorem dX9_moveOf_136 : decode cX9_moveOf 136 = .ok (.ireturn, 1) := by decide +kernel
theorem dX9_moveOf_137 : decode cX9_moveOf 137 = .ok (.aload_n 3, 1) := by decide +kernel
theorem dX9_moveOf_138 : decode cX9_moveOf 138 = .ok (.getfield 314, 3) := by decide +kernel
theorem dX9_moveOf_141 : decode cX9_moveOf 141 = .ok (.ireturn, 1) := by decide +kernel
theorem dX9_moveOf_142 : decode cX9_moveOf 142 = .ok (.aload_n 0, 1) := by decide +kernel
theorem dX9_moveOf_143 : decode cX9_moveOf 143 = .ok (.bipush (-2), 2) := by decide +kernel
theorem dX9_moveOf_145 : decode cX9_moveOf 145 = .ok (.invokevirtual 78, 3) := by decide +kernel
theorem dX9_moveOf_148 : decode cX9_moveOf 148 = .ok (.ireturn, 1) := by decide +kernel
theorem dX9_like_0 : decode cX9_like 0 = .ok (.aload_n 0, 1) := by decide +kernel
theorem dX9_like_1 : decode cX9_like 1 = .ok (.iload_n 1, 1) := by decide +kernel
theorem dX9_like_2 : decode cX9_like 2 = .ok (.invokevirtual 155, 3) := by decide +kernel
theorem dX9_like_5 : decode cX9_like 5 = .ok (.astore_n 3, 1) := by decide +kernel
theorem dX9_like_6 : decode cX9_like 6 = .ok (.aload_n 3, 1) := by decide +kernel
theorem dX9_like_7 : decode cX9_like 7 = .ok (.ifnonnull 9, 3) := by decide +kernel
theorem dX9_like_10 : decode cX9_like 10 = .ok (.aload_n 0, 1) := by decide +kernel
theorem dX9_like_11 : decode cX9_like 11 = .ok (.iconst (-1), 1) := by decide +kernel
theorem dX9_like_12 : decode cX9_like 12 = .ok (.invokevirtual 78, 3) := by decide +kernel
theorem dX9_like_15 : decode cX9_like 15 = .ok (.ireturn, 1) := by decide +kernel
theorem dX9_like_16 : decode cX9_like 16 = .ok (.iload_n 2, 1) := by decide +kernel
theorem dX9_like_17 : decode cX9_like 17 = .ok (.iconst 0, 1) := by decide +kernel
theorem dX9_like_18 : decode cX9_like 18 = .ok (.sipush 9999, 3) := by decide +kernel
theorem dX9_like_21 : decode cX9_like 21 = .ok (.invokestatic 74, 3) := by decide +kernel
theorem dX9_like_24 : decode cX9_like 24 = .ok (.istore 4, 2) := by decide +kernel
theorem dX9_like_26 : decode cX9_like 26 = .ok (.iload 4, 2) := by decide +kernel
theorem dX9_like_28 : decode cX9_like 28 = .ok (.ifCond .eq 10, 3) := by decide +kernel
theorem dX9_like_31 : decode cX9_like 31 = .ok (.aload_n 0, 1) := by decide +kernel
theorem dX9_like_32 : decode cX9_like 32 = .ok (.iload 4, 2) := by decide +kernel
theorem dX9_like_34 : decode cX9_like 34 = .ok (.invokevirtual 78, 3) := by decide +kernel
theorem dX9_like_37 : decode cX9_like 37 = .ok (.ireturn, 1) := by decide +kernel
theorem dX9_like_38 : decode cX9_like 38 = .ok (.aload_n 3, 1) := by decide +kernel
theorem dX9_like_39 : decode cX9_like 39 = .ok (.iload_n 2, 1) := by decide +kernel
theorem dX9_like_40 : decode cX9_like 40 = .ok (.invokevirtual 317, 3) := by decide +kernel
theorem dX9_like_43 : decode cX9_like 43 = .ok (.ireturn, 1) := by decide +kernel
theorem dX9_rivals_0 : decode cX9_rivals 0 = .ok (.aload_n 0, 1) := by decide +kernel
theorem dX9_rivals_1 : decode cX9_rivals 1 = .ok (.iload_n 1, 1) := by decide +kernel
theorem dX9_rivals_2 : decode cX9_rivals 2 = .ok (.invokevirtual 110, 3) := by decide +kernel
theorem dX9_rivals_5 : decode cX9_rivals 5 = .ok (.astore_n 3, 1) := by decide +kernel
theorem dX9_rivals_6 : decode cX9_rivals 6 = .ok (.aload_n 3, 1) := by decide +kernel
theorem dX9_rivals_7 : decode cX9_rivals 7 = .ok (.ifnonnull 9, 3) := by decide +kernel
theorem dX9_rivals_10 : decode cX9_rivals 10 = .ok (.aload_n 0, 1) := by decide +kernel
theorem dX9_rivals_11 : decode cX9_rivals 11 = .ok (.iconst (-1), 1) := by decide +kernel
theorem dX9_rivals_12 : decode cX9_rivals 12 = .ok (.invokevirtual 78, 3) := by decide +kernel
theorem dX9_rivals_15 : decode cX9_rivals 15 = .ok (.ireturn, 1) := by decide +kernel
theorem dX9_rivals_16 : decode cX9_rivals 16 = .ok (.iload_n 2, 1) := by decide +kernel
theorem dX9_rivals_17 : decode cX9_rivals 17 = .ok (.iconst 0, 1) := by decide +kernel
theorem dX9_rivals_18 : decode cX9_rivals 18 = .ok (.sipush 9999, 3) := by decide +kernel
theorem dX9_rivals_21 : decode cX9_rivals 21 = .ok (.invokestatic 74, 3) := by decide +kernel
theorem dX9_rivals_24 : decode cX9_rivals 24 = .ok (.istore 4, 2) := by decide +kernel
theorem dX9_rivals_26 : decode cX9_rivals 26 = .ok (.iload 4, 2) := by decide +kernel
theorem dX9_rivals_28 : decode cX9_rivals 28 = .ok (.ifCond .eq 10, 3) := by decide +kernel
theorem dX9_rivals_31 : decode cX9_rivals 31 = .ok (.aload_n 0, 1) := by decide +kernel
theorem dX9_rivals_32 : decode cX9_rivals 32 = .ok (.iload 4, 2) := by decide +kernel
theorem dX9_rivals_34 : decode cX9_rivals 34 = .ok (.invokevirtual 78, 3) := by decide +kernel
theorem dX9_rivals_37 : decode cX9_rivals 37 = .ok (.ireturn, 1) := by decide +kernel
theorem dX9_rivals_38 : decode cX9_rivals 38 = .ok (.aload_n 0, 1) := by decide +kernel
theorem dX9_rivals_39 : decode cX9_rivals 39 = .ok (.aload_n 3, 1) := by decide +kernel
theorem dX9_rivals_40 : decode cX9_rivals 40 = .ok (.iload_n 2, 1) := by decide +kernel
theorem dX9_rivals_41 : decode cX9_rivals 41 = .ok (.invokevirtual 320, 3) := by decide +kernel
theorem dX9_rivals_44 : decode cX9_rivals 44 = .ok (.ireturn, 1) := by decide +kernel
theorem dX9_rival_0 : decode cX9_rival 0 = .ok (.aload_n 0, 1) := by decide +kernel
theorem dX9_rival_1 : decode cX9_rival 1 = .ok (.iload_n 1, 1) := by decide +kernel
theorem dX9_rival_2 : decode cX9_rival 2 = .ok (.invokevirtual 110, 3) := by decide +kernel
theorem dX9_rival_5 : decode cX9_rival 5 = .ok (.astore 4, 2) := by decide +kernel
theorem dX9_rival_7 : decode cX9_rival 7 = .ok (.aload 4, 2) := by decide +kernel
theorem dX9_rival_9 : decode cX9_rival 9 = .ok (.ifnonnull 9, 3) := by decide +kernel
theorem dX9_rival_12 : decode cX9_rival 12 = .ok (.aload_n 0, 1) := by decide +kernel
theorem dX9_rival_13 : decode cX9_rival 13 = .ok (.iconst (-1), 1) := by decide +kernel
theorem dX9_rival_14 : decode cX9_rival 14 = .ok (.invokevirtual 78, 3) := by decide +kernel
theorem dX9_rival_17 : decode cX9_rival 17 = .ok (.ireturn, 1) := by decide +kernel
theorem dX9_rival_18 : decode cX9_rival 18 = .ok (.iload_n 2, 1) := by decide +kernel
theorem dX9_rival_19 : decode cX9_rival 19 = .ok (.iconst 0, 1) := by decide +kernel
theorem dX9_rival_20 : decode cX9_rival 20 = .ok (.sipush 9999, 3) := by decide +kernel
theorem dX9_rival_23 : decode cX9_rival 23 = .ok (.invokestatic 74, 3) := by decide +kernel
theorem dX9_rival_26 : decode cX9_rival 26 = .ok (.istore 5, 2) := by decide +kernel
theorem dX9_rival_28 : decode cX9_rival 28 = .ok (.iload 5, 2) := by decide +kernel
theorem dX9_rival_30 : decode cX9_rival 30 = .ok (.ifCond .eq 10, 3) := by decide +kernel
theorem dX9_rival_33 : decode cX9_rival 33 = .ok (.aload_n 0, 1) := by decide +kernel
theorem dX9_rival_34 : decode cX9_rival 34 = .ok (.iload 5, 2) := by decide +kernel
theorem dX9_rival_36 : decode cX9_rival 36 = .ok (.invokevirtual 78, 3) := by decide +kernel
theorem dX9_rival_39 : decode cX9_rival 39 = .ok (.ireturn, 1) := by decide +kernel
theorem dX9_rival_40 : decode cX9_rival 40 = .ok (.aload_n 0, 1) := by decide +kernel
theorem dX9_rival_41 : decode cX9_rival 41 = .ok (.aload 4, 2) := by decide +kernel
theorem dX9_rival_43 : decode cX9_rival 43 = .ok (.iload_n 2, 1) := by decide +kernel
theorem dX9_rival_44 : decode cX9_rival 44 = .ok (.iload_n 3, 1) := by decide +kernel
theorem dX9_rival_45 : decode cX9_rival 45 = .ok (.invokevirtual 324, 3) := by decide +kernel
theorem dX9_rival_48 : decode cX9_rival 48 = .ok (.ireturn, 1) := by decide +kernel
theorem dX9_tell_0 : decode cX9_tell 0 = .ok (.aload_n 0, 1) := by decide +kernel
theorem dX9_tell_1 : decode cX9_tell 1 = .ok (.getfield 63, 3) := by decide +kernel
theorem dX9_tell_4 : decode cX9_tell 4 = .ok (.ifCond .lt 15, 3) := by decide +kernel
theorem dX9_tell_7 : decode cX9_tell 7 = .ok (.aload_n 0, 1) := by decide +kernel
theorem dX9_tell_8 : decode cX9_tell 8 = .ok (.getfield 63, 3) := by decide +kernel
theorem dX9_tell_11 : decode cX9_tell 11 = .ok (.aload_n 0, 1) := by decide +kernel
theorem dX9_tell_12 : decode cX9_tell 12 = .ok (.getfield 59, 3) := by decide +kernel
theorem dX9_tell_15 : decode cX9_tell 15 = .ok (.arraylength, 1) := by decide +kernel
theorem dX9_tell_16 : decode cX9_tell 16 = .ok (.if_icmp .lt 10, 3) := by decide +kernel
theorem dX9_tell_19 : decode cX9_tell 19 = .ok (.aload_n 0, 1) := by decide +kernel
theorem dX9_tell_20 : decode cX9_tell 20 = .ok (.bipush (-6), 2) := by decide +kernel
theorem dX9_tell_22 : decode cX9_tell 22 = .ok (.invokevirtual 78, 3) := by decide +kernel
theorem dX9_tell_25 : decode cX9_tell 25 = .ok (.ireturn, 1) := by decide +kernel
theorem dX9_tell_26 : decode cX9_tell 26 = .ok (.aload_n 0, 1) := by decide +kernel
theorem dX9_tell_27 : decode cX9_tell 27 = .ok (.getfield 59, 3) := by decide +kernel
theorem dX9_tell_30 : decode cX9_tell 30 = .ok (.aload_n 0, 1) := by decide +kernel
theorem dX9_tell_31 : decode cX9_tell 31 = .ok (.getfield 63, 3) := by decide +kernel
theorem dX9_tell_34 : decode cX9_tell 34 = .ok (.lload_n 1, 1) := by decide +kernel
theorem dX9_tell_35 : decode cX9_tell 35 = .ok (.lastore, 1) := by decide +kernel
theorem dX9_tell_36 : decode cX9_tell 36 = .ok (.aload_n 0, 1) := by decide +kernel
theorem dX9_tell_37 : decode cX9_tell 37 = .ok (.dup, 1) := by decide +kernel
theorem dX9_tell_38 : decode cX9_tell 38 = .ok (.getfield 63, 3) := by decide +kernel
theorem dX9_tell_41 : decode cX9_tell 41 = .ok (.iconst 1, 1) := by decide +kernel
theorem dX9_tell_42 : decode cX9_tell 42 = .ok (.iadd, 1) := by decide +kernel
theorem dX9_tell_43 : decode cX9_tell 43 = .ok (.putfield 63, 3) := by decide +kernel
theorem dX9_tell_46 : decode cX9_tell 46 = .ok (.aload_n 0, 1) := by decide +kernel
theorem dX9_tell_47 : decode cX9_tell 47 = .ok (.getfield 63, 3) := by decide +kernel
theorem dX9_tell_50 : decode cX9_tell 50 = .ok (.ireturn, 1) := by decide +kernel
theorem dX9_check_0 : decode cX9_check 0 = .ok (.aload_n 0, 1) := by decide +kernel
theorem dX9_check_1 : decode cX9_check 1 = .ok (.getfield 63, 3) := by decide +kernel
theorem dX9_check_4 : decode cX9_check 4 = .ok (.aload_n 0, 1) := by decide +kernel
theorem dX9_check_5 : decode cX9_check 5 = .ok (.getfield 59, 3) := by decide +kernel
theorem dX9_check_8 : decode cX9_check 8 = .ok (.arraylength, 1) := by decide +kernel
theorem dX9_check_9 : decode cX9_check 9 = .ok (.if_icmp .eq 10, 3) := by decide +kernel
theorem dX9_check_12 : decode cX9_check 12 = .ok (.aload_n 0, 1) := by decide +kernel
theorem dX9_check_13 : decode cX9_check 13 = .ok (.bipush (-3), 2) := by decide +kernel
theorem dX9_check_15 : decode cX9_check 15 = .ok (.invokevirtual 78, 3) := by decide +kernel
theorem dX9_check_18 : decode cX9_check 18 = .ok (.ireturn, 1) := by decide +kernel
theorem dX9_check_19 : decode cX9_check 19 = .ok (.aload_n 0, 1) := by decide +kernel
theorem dX9_check_20 : decode cX9_check 20 = .ok (.iconst 0, 1) := by decide +kernel
theorem dX9_check_21 : decode cX9_check 21 = .ok (.putfield 63, 3) := by decide +kernel
theorem dX9_check_24 : decode cX9_check 24 = .ok (.iconst 0, 1) := by decide +kernel
theorem dX9_check_25 : decode cX9_check 25 = .ok (.istore_n 1, 1) := by decide +kernel
theorem dX9_check_26 : decode cX9_check 26 = .ok (.iload_n 1, 1) := by decide +kernel
theorem dX9_check_27 : decode cX9_check 27 = .ok (.aload_n 0, 1) := by decide +kernel
theorem dX9_check_28 : decode cX9_check 28 = .ok (.getfield 59, 3) := by decide +kernel
theorem dX9_check_31 : decode cX9_check 31 = .ok (.arraylength, 1) := by decide +kernel
theorem dX9_check_32 : decode cX9_check 32 = .ok (.if_icmp .ge 39, 3) := by decide +kernel
theorem dX9_check_35 : decode cX9_check 35 = .ok (.iload_n 1, 1) := by decide +kernel
theorem dX9_check_36 : decode cX9_check 36 = .ok (.aload_n 0, 1) := by decide +kernel
theorem dX9_check_37 : decode cX9_check 37 = .ok (.getfield 18, 3) := by decide +kernel
theorem dX9_check_40 : decode cX9_check 40 = .ok (.arraylength, 1) := by decide +kernel
theorem dX9_check_41 : decode cX9_check 41 = .ok (.if_icmp .ge 30, 3) := by decide +kernel
theorem dX9_check_44 : decode cX9_check 44 = .ok (.aload_n 0, 1) := by decide +kernel
theorem dX9_check_45 : decode cX9_check 45 = .ok (.getfield 59, 3) := by decide +kernel
theorem dX9_check_48 : decode cX9_check 48 = .ok (.iload_n 1, 1) := by decide +kernel
theorem dX9_check_49 : decode cX9_check 49 = .ok (.laload, 1) := by decide +kernel
theorem dX9_check_50 : decode cX9_check 50 = .ok (.aload_n 0, 1) := by decide +kernel
theorem dX9_check_51 : decode cX9_check 51 = .ok (.getfield 18, 3) := by decide +kernel
theorem dX9_check_54 : decode cX9_check 54 = .ok (.iload_n 1, 1) := by decide +kernel
theorem dX9_check_55 : decode cX9_check 55 = .ok (.aaload, 1) := by decide +kernel
theorem dX9_check_56 : decode cX9_check 56 = .ok (.getfield 138, 3) := by decide +kernel
theorem dX9_check_59 : decode cX9_check 59 = .ok (.lcmp, 1) := by decide +kernel
theorem dX9_check_60 : decode cX9_check 60 = .ok (.ifCond .eq 5, 3) := by decide +kernel
theorem dX9_check_63 : decode cX9_check 63 = .ok (.iload_n 1, 1) := by decide +kernel
theorem dX9_check_64 : decode cX9_check 64 = .ok (.ireturn, 1) := by decide +kernel
theorem dX9_check_65 : decode cX9_check 65 = .ok (.iinc 1 1, 3) := by decide +kernel
theorem dX9_check_68 : decode cX9_check 68 = .ok (.goto (-42), 3) := by decide +kernel
theorem dX9_check_71 : decode cX9_check 71 = .ok (.bipush (-9), 2) := by decide +kernel
theorem dX9_check_73 : decode cX9_check 73 = .ok (.ireturn, 1) := by decide +kernel
theorem dX9_surge_0 : decode cX9_surge 0 = .ok (.iload_n 1, 1) := by decide +kernel
theorem dX9_surge_1 : decode cX9_surge 1 = .ok (.ifCond .ge 10, 3) := by decide +kernel
theorem dX9_surge_4 : decode cX9_surge 4 = .ok (.aload_n 0, 1) := by decide +kernel
theorem dX9_surge_5 : decode cX9_surge 5 = .ok (.bipush (-4), 2) := by decide +kernel
theorem dX9_surge_7 : decode cX9_surge 7 = .ok (.invokevirtual 78, 3) := by decide +kernel
theorem dX9_surge_10 : decode cX9_surge 10 = .ok (.ireturn, 1) := by decide +kernel
theorem dX9_surge_11 : decode cX9_surge 11 = .ok (.iload_n 1, 1) := by decide +kernel
theorem dX9_surge_12 : decode cX9_surge 12 = .ok (.bipush 127, 2) := by decide +kernel
theorem dX9_surge_14 : decode cX9_surge 14 = .ok (.if_icmp .gt 15, 3) := by decide +kernel
theorem dX9_surge_17 : decode cX9_surge 17 = .ok (.aload_n 0, 1) := by decide +kernel
theorem dX9_surge_18 : decode cX9_surge 18 = .ok (.getfield 55, 3) := by decide +kernel
theorem dX9_surge_21 : decode cX9_surge 21 = .ok (.getfield 328, 3) := by decide +kernel
theorem dX9_surge_24 : decode cX9_surge 24 = .ok (.bipush 9, 2) := by decide +kernel
theorem dX9_surge_26 : decode cX9_surge 26 = .ok (.if_icmp .lt 10, 3) := by decide +kernel
theorem dX9_surge_29 : decode cX9_surge 29 = .ok (.aload_n 0, 1) := by decide +kernel
theorem dX9_surge_30 : decode cX9_surge 30 = .ok (.bipush (-6), 2) := by decide +kernel
theorem dX9_surge_32 : decode cX9_surge 32 = .ok (.invokevirtual 78, 3) := by decide +kernel
theorem dX9_surge_35 : decode cX9_surge 35 = .ok (.ireturn, 1) := by decide +kernel
theorem dX9_surge_36 : decode cX9_surge 36 = .ok (.aload_n 0, 1) := by decide +kernel
theorem dX9_surge_37 : decode cX9_surge 37 = .ok (.getfield 55, 3) := by decide +kernel
theorem dX9_surge_40 : decode cX9_surge 40 = .ok (.iload_n 1, 1) := by decide +kernel
theorem dX9_surge_41 : decode cX9_surge 41 = .ok (.invokevirtual 329, 3) := by decide +kernel
theorem dX9_surge_44 : decode cX9_surge 44 = .ok (.ireturn, 1) := by decide +kernel
theorem dX9_least_0 : decode cX9_least 0 = .ok (.aload_n 0, 1) := by decide +kernel
theorem dX9_least_1 : decode cX9_least 1 = .ok (.getfield 55, 3) := by decide +kernel
theorem dX9_least_4 : decode cX9_least 4 = .ok (.invokevirtual 331, 3) := by decide +kernel
theorem dX9_least_7 : decode cX9_least 7 = .ok (.ireturn, 1) := by decide +kernel
theorem dX9_tooLate_0 : decode cX9_tooLate 0 = .ok (.iload_n 1, 1) := by decide +kernel
theorem dX9_tooLate_1 : decode cX9_tooLate 1 = .ok (.iconst 0, 1) := by decide +kernel
theorem dX9_tooLate_2 : decode cX9_tooLate 2 = .ok (.sipush 999, 3) := by decide +kernel
theorem dX9_tooLate_5 : decode cX9_tooLate 5 = .ok (.invokestatic 74, 3) := by decide +kernel
theorem dX9_tooLate_8 : decode cX9_tooLate 8 = .ok (.istore_n 2, 1) := by decide +kernel
theorem dX9_tooLate_9 : decode cX9_tooLate 9 = .ok (.iload_n 2, 1) := by decide +kernel
theorem dX9_tooLate_10 : decode cX9_tooLate 10 = .ok (.ifCond .eq 9, 3) := by decide +kernel
theorem dX9_tooLate_13 : decode cX9_tooLate 13 = .ok (.aload_n 0, 1) := by decide +kernel
theorem dX9_tooLate_14 : decode cX9_tooLate 14 = .ok (.iload_n 2, 1) := by decide +kernel
theorem dX9_tooLate_15 : decode cX9_tooLate 15 = .ok (.invokevirtual 78, 3) := by decide +kernel
theorem dX9_tooLate_18 : decode cX9_tooLate 18 = .ok (.ireturn, 1) := by decide +kernel
theorem dX9_tooLate_19 : decode cX9_tooLate 19 = .ok (.aload_n 0, 1) := by decide +kernel
