theorem dX5_init_0 : decode cX5_init 0 = .ok (.aload_n 0, 1) := by decide +kernel
theorem dX5_init_1 : decode cX5_init 1 = .ok (.invokespecial 1, 3) := by decide +kernel
theorem dX5_init_4 : decode cX5_init 4 = .ok (.aload_n 0, 1) := by decide +kernel
theorem dX5_init_5 : decode cX5_init 5 = .ok (.bipush 80, 2) := by decide +kernel
theorem dX5_init_7 : decode cX5_init 7 = .ok (.newarray .int, 2) := by decide +kernel
theorem dX5_init_9 : decode cX5_init 9 = .ok (.putfield 7, 3) := by decide +kernel
theorem dX5_init_12 : decode cX5_init 12 = .ok (.aload_n 0, 1) := by decide +kernel
theorem dX5_init_13 : decode cX5_init 13 = .ok (.bipush 36, 2) := by decide +kernel
theorem dX5_init_15 : decode cX5_init 15 = .ok (.newarray .int, 2) := by decide +kernel
theorem dX5_init_17 : decode cX5_init 17 = .ok (.putfield 13, 3) := by decide +kernel
theorem dX5_init_20 : decode cX5_init 20 = .ok (.aload_n 0, 1) := by decide +kernel
theorem dX5_init_21 : decode cX5_init 21 = .ok (.bipush 80, 2) := by decide +kernel
theorem dX5_init_23 : decode cX5_init 23 = .ok (.newarray .int, 2) := by decide +kernel
theorem dX5_init_25 : decode cX5_init 25 = .ok (.putfield 16, 3) := by decide +kernel
theorem dX5_init_28 : decode cX5_init 28 = .ok (.aload_n 0, 1) := by decide +kernel
theorem dX5_init_29 : decode cX5_init 29 = .ok (.bipush 36, 2) := by decide +kernel
theorem dX5_init_31 : decode cX5_init 31 = .ok (.newarray .int, 2) := by decide +kernel
theorem dX5_init_33 : decode cX5_init 33 = .ok (.putfield 19, 3) := by decide +kernel
theorem dX5_init_36 : decode cX5_init 36 = .ok (.aload_n 0, 1) := by decide +kernel
theorem dX5_init_37 : decode cX5_init 37 = .ok (.bipush 36, 2) := by decide +kernel
theorem dX5_init_39 : decode cX5_init 39 = .ok (.newarray .int, 2) := by decide +kernel
theorem dX5_init_41 : decode cX5_init 41 = .ok (.putfield 22, 3) := by decide +kernel
theorem dX5_init_44 : decode cX5_init 44 = .ok (.aload_n 0, 1) := by decide +kernel
theorem dX5_init_45 : decode cX5_init 45 = .ok (.sipush 504, 3) := by decide +kernel
theorem dX5_init_48 : decode cX5_init 48 = .ok (.newarray .int, 2) := by decide +kernel
theorem dX5_init_50 : decode cX5_init 50 = .ok (.putfield 25, 3) := by decide +kernel
theorem dX5_init_53 : decode cX5_init 53 = .ok (.aload_n 0, 1) := by decide +kernel
theorem dX5_init_54 : decode cX5_init 54 = .ok (.bipush 72, 2) := by decide +kernel
theorem dX5_init_56 : decode cX5_init 56 = .ok (.newarray .int, 2) := by decide +kernel
theorem dX5_init_58 : decode cX5_init 58 = .ok (.putfield 28, 3) := by decide +kernel
theorem dX5_init_61 : decode cX5_init 61 = .ok (.aload_n 0, 1) := by decide +kernel
theorem dX5_init_62 : decode cX5_init 62 = .ok (.iconst 2, 1) := by decide +kernel
theorem dX5_init_63 : decode cX5_init 63 = .ok (.newarray .boolean, 2) := by decide +kernel
theorem dX5_init_65 : decode cX5_init 65 = .ok (.putfield 31, 3) := by decide +kernel
theorem dX5_init_68 : decode cX5_init 68 = .ok (.aload_n 0, 1) := by decide +kernel
theorem dX5_init_69 : decode cX5_init 69 = .ok (.bipush 6, 2) := by decide +kernel
theorem dX5_init_71 : decode cX5_init 71 = .ok (.newarray .int, 2) := by decide +kernel
theorem dX5_init_73 : decode cX5_init 73 = .ok (.putfield 35, 3) := by decide +kernel
theorem dX5_init_76 : decode cX5_init 76 = .ok (.aload_n 0, 1) := by decide +kernel
theorem dX5_init_77 : decode cX5_init 77 = .ok (.bipush 6, 2) := by decide +kernel
theorem dX5_init_79 : decode cX5_init 79 = .ok (.newarray .int, 2) := by decide +kernel
theorem dX5_init_81 : decode cX5_init 81 = .ok (.putfield 38, 3) := by decide +kernel
theorem dX5_init_84 : decode cX5_init 84 = .ok (.aload_n 0, 1) := by decide +kernel
theorem dX5_init_85 : decode cX5_init 85 = .ok (.bipush 6, 2) := by decide +kernel
theorem dX5_init_87 : decode cX5_init 87 = .ok (.newarray .int, 2) := by decide +kernel
theorem dX5_init_89 : decode cX5_init 89 = .ok (.putfield 41, 3) := by decide +kernel
theorem dX5_init_92 : decode cX5_init 92 = .ok (.aload_n 0, 1) := by decide +kernel
theorem dX5_init_93 : decode cX5_init 93 = .ok (.sipush 251, 3) := by decide +kernel
theorem dX5_init_96 : decode cX5_init 96 = .ok (.newarray .int, 2) := by decide +kernel
theorem dX5_init_98 : decode cX5_init 98 = .ok (.putfield 44, 3) := by decide +kernel
theorem dX5_init_101 : decode cX5_init 101 = .ok (.aload_n 0, 1) := by decide +kernel
theorem dX5_init_102 : decode cX5_init 102 = .ok (.getfield 19, 3) := by decide +kernel
theorem dX5_init_105 : decode cX5_init 105 = .ok (.invokestatic 47, 3) := by decide +kernel
theorem dX5_init_108 : decode cX5_init 108 = .ok (.return_, 1) := by decide +kernel
theorem dX5_in_0 : decode cX5_in 0 = .ok (.lload_n 0, 1) := by decide +kernel
theorem dX5_in_1 : decode cX5_in 1 = .ok (.lload_n 2, 1) := by decide +kernel
theorem dX5_in_2 : decode cX5_in 2 = .ok (.lcmp, 1) := by decide +kernel
theorem dX5_in_3 : decode cX5_in 3 = .ok (.ifCond .lt 14, 3) := by decide +kernel
theorem dX5_in_6 : decode cX5_in 6 = .ok (.lload_n 0, 1) := by decide +kernel
theorem dX5_in_7 : decode cX5_in 7 = .ok (.lload 4, 2) := by decide +kernel
theorem dX5_in_9 : decode cX5_in 9 = .ok (.lcmp, 1) := by decide +kernel
theorem dX5_in_10 : decode cX5_in 10 = .ok (.ifCond .gt 7, 3) := by decide +kernel
theorem dX5_in_13 : decode cX5_in 13 = .ok (.iconst 1, 1) := by decide +kernel
theorem dX5_in_14 : decode cX5_in 14 = .ok (.goto 4, 3) := by decide +kernel
theorem dX5_in_17 : decode cX5_in 17 = .ok (.iconst 0, 1) := by decide +kernel
theorem dX5_in_18 : decode cX5_in 18 = .ok (.ireturn, 1) := by decide +kernel
theorem dX5_has_0 : decode cX5_has 0 = .ok (.iload_n 0, 1) := by decide +kernel
theorem dX5_has_1 : decode cX5_has 1 = .ok (.iload_n 1, 1) := by decide +kernel
theorem dX5_has_2 : decode cX5_has 2 = .ok (.ishr, 1) := by decide +kernel
theorem dX5_has_3 : decode cX5_has 3 = .ok (.iconst 1, 1) := by decide +kernel
theorem dX5_has_4 : decode cX5_has 4 = .ok (.iand, 1) := by decide +kernel
theorem dX5_has_5 : decode cX5_has 5 = .ok (.iconst 1, 1) := by decide +kernel
theorem dX5_has_6 : decode cX5_has 6 = .ok (.if_icmp .ne 7, 3) := by decide +kernel
theorem dX5_has_9 : decode cX5_has 9 = .ok (.iconst 1, 1) := by decide +kernel
theorem dX5_has_10 : decode cX5_has 10 = .ok (.goto 4, 3) := by decide +kernel
theorem dX5_has_13 : decode cX5_has 13 = .ok (.iconst 0, 1) := by decide +kernel
theorem dX5_has_14 : decode cX5_has 14 = .ok (.ireturn, 1) := by decide +kernel
theorem dX5_ones_0 : decode cX5_ones 0 = .ok (.iconst 0, 1) := by decide +kernel
theorem dX5_ones_1 : decode cX5_ones 1 = .ok (.istore_n 1, 1) := by decide +kernel
theorem dX5_ones_2 : decode cX5_ones 2 = .ok (.iconst 0, 1) := by decide +kernel
theorem dX5_ones_3 : decode cX5_ones 3 = .ok (.istore_n 2, 1) := by decide +kernel
theorem dX5_ones_4 : decode cX5_ones 4 = .ok (.iload_n 2, 1) := by decide +kernel
theorem dX5_ones_5 : decode cX5_ones 5 = .ok (.bipush 12, 2) := by decide +kernel
theorem dX5_ones_7 : decode cX5_ones 7 = .ok (.if_icmp .ge 17, 3) := by decide +kernel
theorem dX5_ones_10 : decode cX5_ones 10 = .ok (.iload_n 1, 1) := by decide +kernel
theorem dX5_ones_11 : decode cX5_ones 11 = .ok (.iload_n 0, 1) := by decide +kernel
theorem dX5_ones_12 : decode cX5_ones 12 = .ok (.iload_n 2, 1) := by decide +kernel
theorem dX5_ones_13 : decode cX5_ones 13 = .ok (.ishr, 1) := by decide +kernel
theorem dX5_ones_14 : decode cX5_ones 14 = .ok (.iconst 1, 1) := by decide +kernel
theorem dX5_ones_15 : decode cX5_ones 15 = .ok (.iand, 1) := by decide +kernel
theorem dX5_ones_16 : decode cX5_ones 16 = .ok (.iadd, 1) := by decide +kernel
theorem dX5_ones_17 : decode cX5_ones 17 = .ok (.istore_n 1, 1) := by decide +kernel
theorem dX5_ones_18 : decode cX5_ones 18 = .ok (.iinc 2 1, 3) := by decide +kernel
theorem dX5_ones_21 : decode cX5_ones 21 = .ok (.goto (-17), 3) := by decide +kernel
theorem dX5_ones_24 : decode cX5_ones 24 = .ok (.iload_n 1, 1) := by decide +kernel
theorem dX5_ones_25 : decode cX5_ones 25 = .ok (.ireturn, 1) := by decide +kernel
theorem dX5_power_0 : decode cX5_power 0 = .ok (.iconst 1, 1) := by decide +kernel
theorem dX5_power_1 : decode cX5_power 1 = .ok (.istore_n 2, 1) := by decide +kernel
theorem dX5_power_2 : decode cX5_power 2 = .ok (.iconst 0, 1) := by decide +kernel
theorem dX5_power_3 : decode cX5_power 3 = .ok (.istore_n 3, 1) := by decide +kernel
theorem dX5_power_4 : decode cX5_power 4 = .ok (.iload_n 3, 1) := by decide +kernel
theorem dX5_power_5 : decode cX5_power 5 = .ok (.iload_n 1, 1) := by decide +kernel
theorem dX5_power_6 : decode cX5_power 6 = .ok (.if_icmp .ge 13, 3) := by decide +kernel
theorem dX5_power_9 : decode cX5_power 9 = .ok (.iload_n 2, 1) := by decide +kernel
theorem dX5_power_10 : decode cX5_power 10 = .ok (.iload_n 0, 1) := by decide +kernel
theorem dX5_power_11 : decode cX5_power 11 = .ok (.imul, 1) := by decide +kernel
theorem dX5_power_12 : decode cX5_power 12 = .ok (.istore_n 2, 1) := by decide +kernel
theorem dX5_power_13 : decode cX5_power 13 = .ok (.iinc 3 1, 3) := by decide +kernel
theorem dX5_power_16 : decode cX5_power 16 = .ok (.goto (-12), 3) := by decide +kernel
theorem dX5_power_19 : decode cX5_power 19 = .ok (.iload_n 2, 1) := by decide +kernel
theorem dX5_power_20 : decode cX5_power 20 = .ok (.ireturn, 1) := by decide +kernel
theorem dX5_layFirst_0 : decode cX5_layFirst 0 = .ok (.iconst 0, 1) := by decide +kernel
theorem dX5_layFirst_1 : decode cX5_layFirst 1 = .ok (.istore_n 1, 1) := by decide +kernel
theorem dX5_layFirst_2 : decode cX5_layFirst 2 = .ok (.iload_n 1, 1) := by decide +kernel
theorem dX5_layFirst_3 : decode cX5_layFirst 3 = .ok (.bipush 36, 2) := by decide +kernel
theorem dX5_layFirst_5 : decode cX5_layFirst 5 = .ok (.if_icmp .ge 13, 3) := by decide +kernel
theorem dX5_layFirst_8 : decode cX5_layFirst 8 = .ok (.aload_n 0, 1) := by decide +kernel
theorem dX5_layFirst_9 : decode cX5_layFirst 9 = .ok (.iload_n 1, 1) := by decide +kernel
theorem dX5_layFirst_10 : decode cX5_layFirst 10 = .ok (.iconst 0, 1) := by decide +kernel
theorem dX5_layFirst_11 : decode cX5_layFirst 11 = .ok (.iastore, 1) := by decide +kernel
theorem dX5_layFirst_12 : decode cX5_layFirst 12 = .ok (.iinc 1 1, 3) := by decide +kernel
theorem dX5_layFirst_15 : decode cX5_layFirst 15 = .ok (.goto (-13), 3) := by decide +kernel
theorem dX5_layFirst_18 : decode cX5_layFirst 18 = .ok (.aload_n 0, 1) := by decide +kernel
theorem dX5_layFirst_19 : decode cX5_layFirst 19 = .ok (.bipush 25, 2) := by decide +kernel
theorem dX5_layFirst_21 : decode cX5_layFirst 21 = .ok (.iconst 1, 1) := by decide +kernel
theorem dX5_layFirst_22 : decode cX5_layFirst 22 = .ok (.iastore, 1) := by decide +kernel
theorem dX5_layFirst_23 : decode cX5_layFirst 23 = .ok (.aload_n 0, 1) := by decide +kernel
theorem dX5_layFirst_24 : decode cX5_layFirst 24 = .ok (.bipush 26, 2) := by decide +kernel
theorem dX5_layFirst_26 : decode cX5_layFirst 26 = .ok (.bipush (-9), 2) := by decide +kernel
theorem dX5_layFirst_28 : decode cX5_layFirst 28 = .ok (.iastore, 1) := by decide +kernel
theorem dX5_layFirst_29 : decode cX5_layFirst 29 = .ok (.return_, 1) := by decide +kernel
theorem dX5_lay_0 : decode cX5_lay 0 = .ok (.iconst 0, 1) := by decide +kernel
theorem dX5_lay_1 : decode cX5_lay 1 = .ok (.istore_n 2, 1) := by decide +kernel
theorem dX5_lay_2 : decode cX5_lay 2 = .ok (.iload_n 2, 1) := by decide +kernel
theorem dX5_lay_3 : decode cX5_lay 3 = .ok (.bipush 36, 2) := by decide +kernel
theorem dX5_lay_5 : decode cX5_lay 5 = .ok (.if_icmp .ge 15, 3) := by decide +kernel
theorem dX5_lay_8 : decode cX5_lay 8 = .ok (.aload_n 1, 1) := by decide +kernel
theorem dX5_lay_9 : decode cX5_lay 9 = .ok (.iload_n 2, 1) := by decide +kernel
theorem dX5_lay_10 : decode cX5_lay 10 = .ok (.aload_n 0, 1) := by decide +kernel
theorem dX5_lay_11 : decode cX5_lay 11 = .ok (.iload_n 2, 1) := by decide +kernel
theorem dX5_lay_12 : decode cX5_lay 12 = .ok (.iaload, 1) := by decide +kernel
theorem dX5_lay_13 : decode cX5_lay 13 = .ok (.iastore, 1) := by decide +kernel
theorem dX5_lay_14 : decode cX5_lay 14 = .ok (.iinc 2 1, 3) := by decide +kernel
theorem dX5_lay_17 : decode cX5_lay 17 = .ok (.goto (-15), 3) := by decide +kernel
theorem dX5_lay_20 : decode cX5_lay 20 = .ok (.return_, 1) := by decide +kernel
theorem dX5_isNumber_0 : decode cX5_isNumber 0 = .ok (.iload_n 0, 1) := by decide +kernel
theorem dX5_isNumber_1 : decode cX5_isNumber 1 = .ok (.i2l, 1) := by decide +kernel
theorem dX5_isNumber_2 : decode cX5_isNumber 2 = .ok (.lconst 0, 1) := by decide +kernel
theorem dX5_isNumber_3 : decode cX5_isNumber 3 = .ok (.ldc2_w 55, 3) := by decide +kernel
theorem dX5_isNumber_6 : decode cX5_isNumber 6 = .ok (.invokestatic 57, 3) := by decide +kernel
theorem dX5_isNumber_9 : decode cX5_isNumber 9 = .ok (.ireturn, 1) := by decide +kernel
theorem dX5_after_0 : decode cX5_after 0 = .ok (.iload_n 0, 1) := by decide +kernel
theorem dX5_after_1 : decode cX5_after 1 = .ok (.istore_n 3, 1) := by decide +kernel
theorem dX5_after_2 : decode cX5_after 2 = .ok (.iconst 0, 1) := by decide +kernel
theorem dX5_after_3 : decode cX5_after 3 = .ok (.istore 4, 2) := by decide +kernel
theorem dX5_after_5 : decode cX5_after 5 = .ok (.iload 4, 2) := by decide +kernel
theorem dX5_after_7 : decode cX5_after 7 = .ok (.iload_n 2, 1) := by decide +kernel
theorem dX5_after_8 : decode cX5_after 8 = .ok (.if_icmp .ge 19, 3) := by decide +kernel
theorem dX5_after_11 : decode cX5_after 11 = .ok (.iload_n 3, 1) := by decide +kernel
theorem dX5_after_12 : decode cX5_after 12 = .ok (.iload_n 3, 1) := by decide +kernel
theorem dX5_after_13 : decode cX5_after 13 = .ok (.imul, 1) := by decide +kernel
theorem dX5_after_14 : decode cX5_after 14 = .ok (.iload_n 1, 1) := by decide +kernel
theorem dX5_after_15 : decode cX5_after 15 = .ok (.iadd, 1) := by decide +kernel
theorem dX5_after_16 : decode cX5_after 16 = .ok (.sipush 251, 3) := by decide +kernel
theorem dX5_after_19 : decode cX5_after 19 = .ok (.irem, 1) := by decide +kernel
theorem dX5_after_20 : decode cX5_after 20 = .ok (.istore_n 3, 1) := by decide +kernel
theorem dX5_after_21 : decode cX5_after 21 = .ok (.iinc 4 1, 3) := by decide +kernel
theorem dX5_after_24 : decode cX5_after 24 = .ok (.goto (-19), 3) := by decide +kernel
theorem dX5_after_27 : decode cX5_after 27 = .ok (.iload_n 3, 1) := by decide +kernel
theorem dX5_after_28 : decode cX5_after 28 = .ok (.ireturn, 1) := by decide +kernel
theorem dX5_noUser_0 : decode cX5_noUser 0 = .ok (.iload_n 1, 1) := by decide +kernel
theorem dX5_noUser_1 : decode cX5_noUser 1 = .ok (.i2l, 1) := by decide +kernel
theorem dX5_noUser_2 : decode cX5_noUser 2 = .ok (.lconst 0, 1) := by decide +kernel
theorem dX5_noUser_3 : decode cX5_noUser 3 = .ok (.aload_n 0, 1) := by decide +kernel
theorem dX5_noUser_4 : decode cX5_noUser 4 = .ok (.bipush 24, 2) := by decide +kernel
theorem dX5_noUser_6 : decode cX5_noUser 6 = .ok (.iaload, 1) := by decide +kernel
theorem dX5_noUser_7 : decode cX5_noUser 7 = .ok (.iconst 1, 1) := by decide +kernel
theorem dX5_noUser_8 : decode cX5_noUser 8 = .ok (.isub, 1) := by decide +kernel
theorem dX5_noUser_9 : decode cX5_noUser 9 = .ok (.i2l, 1) := by decide +kernel
theorem dX5_noUser_10 : decode cX5_noUser 10 = .ok (.invokestatic 57, 3) := by decide +kernel
theorem dX5_noUser_13 : decode cX5_noUser 13 = .ok (.ifCond .ne 7, 3) := by decide +kernel
theorem dX5_noUser_16 : decode cX5_noUser 16 = .ok (.iconst 1, 1) := by decide +kernel
theorem dX5_noUser_17 : decode cX5_noUser 17 = .ok (.goto 4, 3) := by decide +kernel
theorem dX5_noUser_20 : decode cX5_noUser 20 = .ok (.iconst 0, 1) := by decide +kernel
theorem dX5_noUser_21 : decode cX5_noUser 21 = .ok (.ireturn, 1) := by decide +kernel
theorem dX5_layUser_0 : decode cX5_layUser 0 = .ok (.aload_n 0, 1) := by decide +kernel
theorem dX5_layUser_1 : decode cX5_layUser 1 = .ok (.bipush 6, 2) := by decide +kernel
theorem dX5_layUser_3 : decode cX5_layUser 3 = .ok (.iload_n 1, 1) := by decide +kernel
theorem dX5_layUser_4 : decode cX5_layUser 4 = .ok (.imul, 1) := by decide +kernel
theorem dX5_layUser_5 : decode cX5_layUser 5 = .ok (.iload_n 2, 1) := by decide +kernel
theorem dX5_layUser_6 : decode cX5_layUser 6 = .ok (.iastore, 1) := by decide +kernel
theorem dX5_layUser_7 : decode cX5_layUser 7 = .ok (.aload_n 0, 1) := by decide +kernel
theorem dX5_layUser_8 : decode cX5_layUser 8 = .ok (.bipush 6, 2) := by decide +kernel
theorem dX5_layUser_10 : decode cX5_layUser 10 = .ok (.iload_n 1, 1) := by decide +kernel
theorem dX5_layUser_11 : decode cX5_layUser 11 = .ok (.imul, 1) := by decide +kernel
theorem dX5_layUser_12 : decode cX5_layUser 12 = .ok (.iconst 1, 1) := by decide +kernel
theorem dX5_layUser_13 : decode cX5_layUser 13 = .ok (.iadd, 1) := by decide +kernel
theorem dX5_layUser_14 : decode cX5_layUser 14 = .ok (.iload_n 3, 1) := by decide +kernel
theorem dX5_layUser_15 : decode cX5_layUser 15 = .ok (.iastore, 1) := by decide +kernel
theorem dX5_layUser_16 : decode cX5_layUser 16 = .ok (.aload_n 0, 1) := by decide +kernel
theorem dX5_layUser_17 : decode cX5_layUser 17 = .ok (.bipush 6, 2) := by decide +kernel
theorem dX5_layUser_19 : decode cX5_layUser 19 = .ok (.iload_n 1, 1) := by decide +kernel
theorem dX5_layUser_20 : decode cX5_layUser 20 = .ok (.imul, 1) := by decide +kernel
theorem dX5_layUser_21 : decode cX5_layUser 21 = .ok (.iconst 2, 1) := by decide +kernel
theorem dX5_layUser_22 : decode cX5_layUser 22 = .ok (.iadd, 1) := by decide +kernel
theorem dX5_layUser_23 : decode cX5_layUser 23 = .ok (.iload 4, 2) := by decide +kernel
theorem dX5_layUser_25 : decode cX5_layUser 25 = .ok (.iastore, 1) := by decide +kernel
theorem dX5_layUser_26 : decode cX5_layUser 26 = .ok (.aload_n 0, 1) := by decide +kernel
theorem dX5_layUser_27 : decode cX5_layUser 27 = .ok (.bipush 6, 2) := by decide +kernel
theorem dX5_layUser_29 : decode cX5_layUser 29 = .ok (.iload_n 1, 1) := by decide +kernel
theorem dX5_layUser_30 : decode cX5_layUser 30 = .ok (.imul, 1) := by decide +kernel
theorem dX5_layUser_31 : decode cX5_layUser 31 = .ok (.iconst 3, 1) := by decide +kernel
theorem dX5_layUser_32 : decode cX5_layUser 32 = .ok (.iadd, 1) := by decide +kernel
theorem dX5_layUser_33 : decode cX5_layUser 33 = .ok (.iload 4, 2) := by decide +kernel
theorem dX5_layUser_35 : decode cX5_layUser 35 = .ok (.iastore, 1) := by decide +kernel
theorem dX5_layUser_36 : decode cX5_layUser 36 = .ok (.aload_n 0, 1) := by decide +kernel
theorem dX5_layUser_37 : decode cX5_layUser 37 = .ok (.bipush 6, 2) := by decide +kernel
theorem dX5_layUser_39 : decode cX5_layUser 39 = .ok (.iload_n 1, 1) := by decide +kernel
theorem dX5_layUser_40 : decode cX5_layUser 40 = .ok (.imul, 1) := by decide +kernel
theorem dX5_layUser_41 : decode cX5_layUser 41 = .ok (.iconst 4, 1) := by decide +kernel
theorem dX5_layUser_42 : decode cX5_layUser 42 = .ok (.iadd, 1) := by decide +kernel
theorem dX5_layUser_43 : decode cX5_layUser 43 = .ok (.iload_n 2, 1) := by decide +kernel
theorem dX5_layUser_44 : decode cX5_layUser 44 = .ok (.iload_n 3, 1) := by decide +kernel
theorem dX5_layUser_45 : decode cX5_layUser 45 = .ok (.iload 4, 2) := by decide +kernel
theorem dX5_layUser_47 : decode cX5_layUser 47 = .ok (.invokestatic 61, 3) := by decide +kernel
theorem dX5_layUser_50 : decode cX5_layUser 50 = .ok (.iastore, 1) := by decide +kernel
theorem dX5_layUser_51 : decode cX5_layUser 51 = .ok (.aload_n 0, 1) := by decide +kernel
theorem dX5_layUser_52 : decode cX5_layUser 52 = .ok (.bipush 6, 2) := by decide +kernel
theorem dX5_layUser_54 : decode cX5_layUser 54 = .ok (.iload_n 1, 1) := by decide +kernel
theorem dX5_layUser_55 : decode cX5_layUser 55 = .ok (.imul, 1) := by decide +kernel
theorem dX5_layUser_56 : decode cX5_layUser 56 = .ok (.iconst 5, 1) := by decide +kernel
theorem dX5_layUser_57 : decode cX5_layUser 57 = .ok (.iadd, 1) := by decide +kernel
theorem dX5_layUser_58 : decode cX5_layUser 58 = .ok (.iload 4, 2) := by decide +kernel
theorem dX5_layUser_60 : decode cX5_layUser 60 = .ok (.iastore, 1) := by decide +kernel
theorem dX5_layUser_61 : decode cX5_layUser 61 = .ok (.return_, 1) := by decide +kernel
theorem dX5_passOf_0 : decode cX5_passOf 0 = .ok (.aload_n 0, 1) := by decide +kernel
theorem dX5_passOf_1 : decode cX5_passOf 1 = .ok (.bipush 6, 2) := by decide +kernel
theorem dX5_passOf_3 : decode cX5_passOf 3 = .ok (.iload_n 1, 1) := by decide +kernel
theorem dX5_passOf_4 : decode cX5_passOf 4 = .ok (.imul, 1) := by decide +kernel
theorem dX5_passOf_5 : decode cX5_passOf 5 = .ok (.iaload, 1) := by decide +kernel
theorem dX5_passOf_6 : decode cX5_passOf 6 = .ok (.aload_n 0, 1) := by decide +kernel
theorem dX5_passOf_7 : decode cX5_passOf 7 = .ok (.bipush 6, 2) := by decide +kernel
theorem dX5_passOf_9 : decode cX5_passOf 9 = .ok (.iload_n 1, 1) := by decide +kernel
theorem dX5_passOf_10 : decode cX5_passOf 10 = .ok (.imul, 1) := by decide +kernel
theorem dX5_passOf_11 : decode cX5_passOf 11 = .ok (.iconst 1, 1) := by decide +kernel
theorem dX5_passOf_12 : decode cX5_passOf 12 = .ok (.iadd, 1) := by decide +kernel
theorem dX5_passOf_13 : decode cX5_passOf 13 = .ok (.iaload, 1) := by decide +kernel
theorem dX5_passOf_14 : decode cX5_passOf 14 = .ok (.iload_n 2, 1) := by decide +kernel
theorem dX5_passOf_15 : decode cX5_passOf 15 = .ok (.invokestatic 61, 3) := by decide +kernel
theorem dX5_passOf_18 : decode cX5_passOf 18 = .ok (.ireturn, 1) := by decide +kernel
theorem dX5_fitsOn_0 : decode cX5_fitsOn 0 = .ok (.iload_n 2, 1) := by decide +kernel
theorem dX5_fitsOn_1 : decode cX5_fitsOn 1 = .ok (.istore_n 3, 1) := by decide +kernel
theorem dX5_fitsOn_2 : decode cX5_fitsOn 2 = .ok (.iconst 1, 1) := by decide +kernel
theorem dX5_fitsOn_3 : decode cX5_fitsOn 3 = .ok (.istore 4, 2) := by decide +kernel
theorem dX5_fitsOn_5 : decode cX5_fitsOn 5 = .ok (.iload 4, 2) := by decide +kernel
theorem dX5_fitsOn_7 : decode cX5_fitsOn 7 = .ok (.aload_n 0, 1) := by decide +kernel
theorem dX5_fitsOn_8 : decode cX5_fitsOn 8 = .ok (.bipush 25, 2) := by decide +kernel
theorem dX5_fitsOn_10 : decode cX5_fitsOn 10 = .ok (.iaload, 1) := by decide +kernel
theorem dX5_fitsOn_11 : decode cX5_fitsOn 11 = .ok (.if_icmp .gt 54, 3) := by decide +kernel
theorem dX5_fitsOn_14 : decode cX5_fitsOn 14 = .ok (.iload 4, 2) := by decide +kernel
theorem dX5_fitsOn_16 : decode cX5_fitsOn 16 = .ok (.aload_n 0, 1) := by decide +kernel
theorem dX5_fitsOn_17 : decode cX5_fitsOn 17 = .ok (.bipush 6, 2) := by decide +kernel
theorem dX5_fitsOn_19 : decode cX5_fitsOn 19 = .ok (.iload_n 1, 1) := by decide +kernel
theorem dX5_fitsOn_20 : decode cX5_fitsOn 20 = .ok (.imul, 1) := by decide +kernel
theorem dX5_fitsOn_21 : decode cX5_fitsOn 21 = .ok (.iconst 5, 1) := by decide +kernel
theorem dX5_fitsOn_22 : decode cX5_fitsOn 22 = .ok (.iadd, 1) := by decide +kernel
theorem dX5_fitsOn_23 : decode cX5_fitsOn 23 = .ok (.iaload, 1) := by decide +kernel
theorem dX5_fitsOn_24 : decode cX5_fitsOn 24 = .ok (.if_icmp .gt 41, 3) := by decide +kernel
theorem dX5_fitsOn_27 : decode cX5_fitsOn 27 = .ok (.iload_n 3, 1) := by decide +kernel
theorem dX5_fitsOn_28 : decode cX5_fitsOn 28 = .ok (.iload_n 3, 1) := by decide +kernel
theorem dX5_fitsOn_29 : decode cX5_fitsOn 29 = .ok (.imul, 1) := by decide +kernel
theorem dX5_fitsOn_30 : decode cX5_fitsOn 30 = .ok (.aload_n 0, 1) := by decide +kernel
theorem dX5_fitsOn_31 : decode cX5_fitsOn 31 = .ok (.bipush 6, 2) := by decide +kernel
theorem dX5_fitsOn_33 : decode cX5_fitsOn 33 = .ok (.iload_n 1, 1) := by decide +kernel
theorem dX5_fitsOn_34 : decode cX5_fitsOn 34 = .ok (.imul, 1) := by decide +kernel
theorem dX5_fitsOn_35 : decode cX5_fitsOn 35 = .ok (.iconst 1, 1) := by decide +kernel
theorem dX5_fitsOn_36 : decode cX5_fitsOn 36 = .ok (.iadd, 1) := by decide +kernel
theorem dX5_fitsOn_37 : decode cX5_fitsOn 37 = .ok (.iaload, 1) := by decide +kernel
theorem dX5_fitsOn_38 : decode cX5_fitsOn 38 = .ok (.iadd, 1) := by decide +kernel
theorem dX5_fitsOn_39 : decode cX5_fitsOn 39 = .ok (.sipush 251, 3) := by decide +kernel
theorem dX5_fitsOn_42 : decode cX5_fitsOn 42 = .ok (.irem, 1) := by decide +kernel
theorem dX5_fitsOn_43 : decode cX5_fitsOn 43 = .ok (.istore_n 3, 1) := by decide +kernel
theorem dX5_fitsOn_44 : decode cX5_fitsOn 44 = .ok (.iload_n 3, 1) := by decide +kernel
theorem dX5_fitsOn_45 : decode cX5_fitsOn 45 = .ok (.aload_n 0, 1) := by decide +kernel
theorem dX5_fitsOn_46 : decode cX5_fitsOn 46 = .ok (.bipush 6, 2) := by decide +kernel
theorem dX5_fitsOn_48 : decode cX5_fitsOn 48 = .ok (.iload_n 1, 1) := by decide +kernel
theorem dX5_fitsOn_49 : decode cX5_fitsOn 49 = .ok (.imul, 1) := by decide +kernel
theorem dX5_fitsOn_50 : decode cX5_fitsOn 50 = .ok (.iconst 4, 1) := by decide +kernel
theorem dX5_fitsOn_51 : decode cX5_fitsOn 51 = .ok (.iadd, 1) := by decide +kernel
theorem dX5_fitsOn_52 : decode cX5_fitsOn 52 = .ok (.iaload, 1) := by decide +kernel
theorem dX5_fitsOn_53 : decode cX5_fitsOn 53 = .ok (.if_icmp .ne 6, 3) := by decide +kernel
theorem dX5_fitsOn_56 : decode cX5_fitsOn 56 = .ok (.iload 4, 2) := by decide +kernel
theorem dX5_fitsOn_58 : decode cX5_fitsOn 58 = .ok (.ireturn, 1) := by decide +kernel
theorem dX5_fitsOn_59 : decode cX5_fitsOn 59 = .ok (.iinc 4 1, 3) := by decide +kernel
theorem dX5_fitsOn_62 : decode cX5_fitsOn 62 = .ok (.goto (-57), 3) := by decide +kernel
theorem dX5_fitsOn_65 : decode cX5_fitsOn 65 = .ok (.iconst 0, 1) := by decide +kernel
theorem dX5_fitsOn_66 : decode cX5_fitsOn 66 = .ok (.ireturn, 1) := by decide +kernel
theorem dX5_comeOn_0 : decode cX5_comeOn 0 = .ok (.aload_n 0, 1) := by decide +kernel
theorem dX5_comeOn_1 : decode cX5_comeOn 1 = .ok (.bipush 26, 2) := by decide +kernel
theorem dX5_comeOn_3 : decode cX5_comeOn 3 = .ok (.sipush 1000, 3) := by decide +kernel
theorem dX5_comeOn_6 : decode cX5_comeOn 6 = .ok (.iload_n 1, 1) := by decide +kernel
theorem dX5_comeOn_7 : decode cX5_comeOn 7 = .ok (.imul, 1) := by decide +kernel
theorem dX5_comeOn_8 : decode cX5_comeOn 8 = .ok (.iload_n 2, 1) := by decide +kernel
theorem dX5_comeOn_9 : decode cX5_comeOn 9 = .ok (.iadd, 1) := by decide +kernel
theorem dX5_comeOn_10 : decode cX5_comeOn 10 = .ok (.iastore, 1) := by decide +kernel
theorem dX5_comeOn_11 : decode cX5_comeOn 11 = .ok (.aload_n 0, 1) := by decide +kernel
theorem dX5_comeOn_12 : decode cX5_comeOn 12 = .ok (.iload_n 1, 1) := by decide +kernel
theorem dX5_comeOn_13 : decode cX5_comeOn 13 = .ok (.iload_n 2, 1) := by decide +kernel
theorem dX5_comeOn_14 : decode cX5_comeOn 14 = .ok (.invokestatic 65, 3) := by decide +kernel
theorem dX5_comeOn_17 : decode cX5_comeOn 17 = .ok (.istore_n 3, 1) := by decide +kernel
theorem dX5_comeOn_18 : decode cX5_comeOn 18 = .ok (.aload_n 0, 1) := by decide +kernel
theorem dX5_comeOn_19 : decode cX5_comeOn 19 = .ok (.bipush 6, 2) := by decide +kernel
theorem dX5_comeOn_21 : decode cX5_comeOn 21 = .ok (.iload_n 1, 1) := by decide +kernel
theorem dX5_comeOn_22 : decode cX5_comeOn 22 = .ok (.imul, 1) := by decide +kernel
theorem dX5_comeOn_23 : decode cX5_comeOn 23 = .ok (.iconst 4, 1) := by decide +kernel
theorem dX5_comeOn_24 : decode cX5_comeOn 24 = .ok (.iadd, 1) := by decide +kernel
theorem dX5_comeOn_25 : decode cX5_comeOn 25 = .ok (.iload_n 3, 1) := by decide +kernel
theorem dX5_comeOn_26 : decode cX5_comeOn 26 = .ok (.ifCond .le 7, 3) := by decide +kernel
theorem dX5_comeOn_29 : decode cX5_comeOn 29 = .ok (.iload_n 2, 1) := by decide +kernel
theorem dX5_comeOn_30 : decode cX5_comeOn 30 = .ok (.goto 11, 3) := by decide +kernel
theorem dX5_comeOn_33 : decode cX5_comeOn 33 = .ok (.aload_n 0, 1) := by decide +kernel
theorem dX5_comeOn_34 : decode cX5_comeOn 34 = .ok (.bipush 6, 2) := by decide +kernel
theorem dX5_comeOn_36 : decode cX5_comeOn 36 = .ok (.iload_n 1, 1) := by decide +kernel
theorem dX5_comeOn_37 : decode cX5_comeOn 37 = .ok (.imul, 1) := by decide +kernel
theorem dX5_comeOn_38 : decode cX5_comeOn 38 = .ok (.iconst 4, 1) := by decide +kernel
theorem dX5_comeOn_39 : decode cX5_comeOn 39 = .ok (.iadd, 1) := by decide +kernel
theorem dX5_comeOn_40 : decode cX5_comeOn 40 = .ok (.iaload, 1) := by decide +kernel
theorem dX5_comeOn_41 : decode cX5_comeOn 41 = .ok (.iastore, 1) := by decide +kernel
theorem dX5_comeOn_42 : decode cX5_comeOn 42 = .ok (.aload_n 0, 1) := by decide +kernel
theorem dX5_comeOn_43 : decode cX5_comeOn 43 = .ok (.bipush 6, 2) := by decide +kernel
theorem dX5_comeOn_45 : decode cX5_comeOn 45 = .ok (.iload_n 1, 1) := by decide +kernel
theorem dX5_comeOn_46 : decode cX5_comeOn 46 = .ok (.imul, 1) := by decide +kernel
theorem dX5_comeOn_47 : decode cX5_comeOn 47 = .ok (.iconst 5, 1) := by decide +kernel
theorem dX5_comeOn_48 : decode cX5_comeOn 48 = .ok (.iadd, 1) := by decide +kernel
theorem dX5_comeOn_49 : decode cX5_comeOn 49 = .ok (.dup2, 1) := by decide +kernel
theorem dX5_comeOn_50 : decode cX5_comeOn 50 = .ok (.iaload, 1) := by decide +kernel
theorem dX5_comeOn_51 : decode cX5_comeOn 51 = .ok (.iload_n 3, 1) := by decide +kernel
theorem dX5_comeOn_52 : decode cX5_comeOn 52 = .ok (.isub, 1) := by decide +kernel
theorem dX5_comeOn_53 : decode cX5_comeOn 53 = .ok (.iastore, 1) := by decide +kernel
theorem dX5_comeOn_54 : decode cX5_comeOn 54 = .ok (.iload_n 3, 1) := by decide +kernel
theorem dX5_comeOn_55 : decode cX5_comeOn 55 = .ok (.ireturn, 1) := by decide +kernel
theorem dX5_sendOn_0 : decode cX5_sendOn 0 = .ok (.aload_n 0, 1) := by decide +kernel
theorem dX5_sendOn_1 : decode cX5_sendOn 1 = .ok (.bipush 6, 2) := by decide +kernel
theorem dX5_sendOn_3 : decode cX5_sendOn 3 = .ok (.iload_n 1, 1) := by decide +kernel
theorem dX5_sendOn_4 : decode cX5_sendOn 4 = .ok (.imul, 1) := by decide +kernel
theorem dX5_sendOn_5 : decode cX5_sendOn 5 = .ok (.iconst 3, 1) := by decide +kernel
theorem dX5_sendOn_6 : decode cX5_sendOn 6 = .ok (.iadd, 1) := by decide +kernel
theorem dX5_sendOn_7 : decode cX5_sendOn 7 = .ok (.dup2, 1) := by decide +kernel
theorem dX5_sendOn_8 : decode cX5_sendOn 8 = .ok (.iaload, 1) := by decide +kernel
theorem dX5_sendOn_9 : decode cX5_sendOn 9 = .ok (.iconst 1, 1) := by decide +kernel
theorem dX5_sendOn_10 : decode cX5_sendOn 10 = .ok (.isub, 1) := by decide +kernel
theorem dX5_sendOn_11 : decode cX5_sendOn 11 = .ok (.iastore, 1) := by decide +kernel
theorem dX5_sendOn_12 : decode cX5_sendOn 12 = .ok (.aload_n 0, 1) := by decide +kernel
theorem dX5_sendOn_13 : decode cX5_sendOn 13 = .ok (.iload_n 1, 1) := by decide +kernel
theorem dX5_sendOn_14 : decode cX5_sendOn 14 = .ok (.aload_n 0, 1) := by decide +kernel
theorem dX5_sendOn_15 : decode cX5_sendOn 15 = .ok (.iload_n 1, 1) := by decide +kernel
theorem dX5_sendOn_16 : decode cX5_sendOn 16 = .ok (.aload_n 0, 1) := by decide +kernel
theorem dX5_sendOn_17 : decode cX5_sendOn 17 = .ok (.bipush 6, 2) := by decide +kernel
theorem dX5_sendOn_19 : decode cX5_sendOn 19 = .ok (.iload_n 1, 1) := by decide +kernel
theorem dX5_sendOn_20 : decode cX5_sendOn 20 = .ok (.imul, 1) := by decide +kernel
theorem dX5_sendOn_21 : decode cX5_sendOn 21 = .ok (.iconst 3, 1) := by decide +kernel
theorem dX5_sendOn_22 : decode cX5_sendOn 22 = .ok (.iadd, 1) := by decide +kernel
theorem dX5_sendOn_23 : decode cX5_sendOn 23 = .ok (.iaload, 1) := by decide +kernel
theorem dX5_sendOn_24 : decode cX5_sendOn 24 = .ok (.invokestatic 69, 3) := by decide +kernel
theorem dX5_sendOn_27 : decode cX5_sendOn 27 = .ok (.invokestatic 72, 3) := by decide +kernel
theorem dX5_sendOn_30 : decode cX5_sendOn 30 = .ok (.ireturn, 1) := by decide +kernel
theorem dX5_hasPass_0 : decode cX5_hasPass 0 = .ok (.aload_n 0, 1) := by decide +kernel
theorem dX5_hasPass_1 : decode cX5_hasPass 1 = .ok (.iload_n 1, 1) := by decide +kernel
theorem dX5_hasPass_2 : decode cX5_hasPass 2 = .ok (.invokestatic 75, 3) := by decide +kernel
theorem dX5_hasPass_5 : decode cX5_hasPass 5 = .ok (.ifCond .ne 18, 3) := by decide +kernel
theorem dX5_hasPass_8 : decode cX5_hasPass 8 = .ok (.aload_n 0, 1) := by decide +kernel
theorem dX5_hasPass_9 : decode cX5_hasPass 9 = .ok (.bipush 6, 2) := by decide +kernel
theorem dX5_hasPass_11 : decode cX5_hasPass 11 = .ok (.iload_n 1, 1) := by decide +kernel
theorem dX5_hasPass_12 : decode cX5_hasPass 12 = .ok (.imul, 1) := by decide +kernel
theorem dX5_hasPass_13 : decode cX5_hasPass 13 = .ok (.iconst 3, 1) := by decide +kernel
theorem dX5_hasPass_14 : decode cX5_hasPass 14 = .ok (.iadd, 1) := by decide +kernel
theorem dX5_hasPass_15 : decode cX5_hasPass 15 = .ok (.iaload, 1) := by decide +kernel
theorem dX5_hasPass_16 : decode cX5_hasPass 16 = .ok (.ifCond .le 7, 3) := by decide +kernel
theorem dX5_hasPass_19 : decode cX5_hasPass 19 = .ok (.iconst 1, 1) := by decide +kernel
theorem dX5_hasPass_20 : decode cX5_hasPass 20 = .ok (.goto 4, 3) := by decide +kernel
theorem dX5_hasPass_23 : decode cX5_hasPass 23 = .ok (.iconst 0, 1) := by decide +kernel
theorem dX5_hasPass_24 : decode cX5_hasPass 24 = .ok (.ireturn, 1) := by decide +kernel
theorem dX5_isInStep_0 : decode cX5_isInStep 0 = .ok (.aload_n 0, 1) := by decide +kernel
theorem dX5_isInStep_1 : decode cX5_isInStep 1 = .ok (.iload_n 1, 1) := by decide +kernel
theorem dX5_isInStep_2 : decode cX5_isInStep 2 = .ok (.invokestatic 79, 3) := by decide +kernel
theorem dX5_isInStep_5 : decode cX5_isInStep 5 = .ok (.ifCond .eq 30, 3) := by decide +kernel
theorem dX5_isInStep_8 : decode cX5_isInStep 8 = .ok (.aload_n 0, 1) := by decide +kernel
theorem dX5_isInStep_9 : decode cX5_isInStep 9 = .ok (.iload_n 1, 1) := by decide +kernel
theorem dX5_isInStep_10 : decode cX5_isInStep 10 = .ok (.aload_n 0, 1) := by decide +kernel
theorem dX5_isInStep_11 : decode cX5_isInStep 11 = .ok (.iload_n 1, 1) := by decide +kernel
theorem dX5_isInStep_12 : decode cX5_isInStep 12 = .ok (.aload_n 0, 1) := by decide +kernel
theorem dX5_isInStep_13 : decode cX5_isInStep 13 = .ok (.bipush 6, 2) := by decide +kernel
theorem dX5_isInStep_15 : decode cX5_isInStep 15 = .ok (.iload_n 1, 1) := by decide +kernel
theorem dX5_isInStep_16 : decode cX5_isInStep 16 = .ok (.imul, 1) := by decide +kernel
theorem dX5_isInStep_17 : decode cX5_isInStep 17 = .ok (.iconst 3, 1) := by decide +kernel
theorem dX5_isInStep_18 : decode cX5_isInStep 18 = .ok (.iadd, 1) := by decide +kernel
theorem dX5_isInStep_19 : decode cX5_isInStep 19 = .ok (.iaload, 1) := by decide +kernel
theorem dX5_isInStep_20 : decode cX5_isInStep 20 = .ok (.iconst 1, 1) := by decide +kernel
theorem dX5_isInStep_21 : decode cX5_isInStep 21 = .ok (.isub, 1) := by decide +kernel
theorem dX5_isInStep_22 : decode cX5_isInStep 22 = .ok (.invokestatic 69, 3) := by decide +kernel
theorem dX5_isInStep_25 : decode cX5_isInStep 25 = .ok (.invokestatic 65, 3) := by decide +kernel
theorem dX5_isInStep_28 : decode cX5_isInStep 28 = .ok (.ifCond .le 7, 3) := by decide +kernel
theorem dX5_isInStep_31 : decode cX5_isInStep 31 = .ok (.iconst 1, 1) := by decide +kernel
theorem dX5_isInStep_32 : decode cX5_isInStep 32 = .ok (.goto 4, 3) := by decide +kernel
theorem dX5_isInStep_35 : decode cX5_isInStep 35 = .ok (.iconst 0, 1) := by decide +kernel
theorem dX5_isInStep_36 : decode cX5_isInStep 36 = .ok (.ireturn, 1) := by decide +kernel
theorem dX5_write_0 : decode cX5_write 0 = .ok (.aload_n 0, 1) := by decide +kernel
theorem dX5_write_1 : decode cX5_write 1 = .ok (.iconst 0, 1) := by decide +kernel
theorem dX5_write_2 : decode cX5_write 2 = .ok (.putfield 51, 3) := by decide +kernel
theorem dX5_write_5 : decode cX5_write 5 = .ok (.iload_n 1, 1) := by decide +kernel
theorem dX5_write_6 : decode cX5_write 6 = .ok (.i2l, 1) := by decide +kernel
theorem dX5_write_7 : decode cX5_write 7 = .ok (.lconst 0, 1) := by decide +kernel
theorem dX5_write_8 : decode cX5_write 8 = .ok (.ldc2_w 82, 3) := by decide +kernel
theorem dX5_write_11 : decode cX5_write 11 = .ok (.invokestatic 57, 3) := by decide +kernel
theorem dX5_write_14 : decode cX5_write 14 = .ok (.ifCond .ne 6, 3) := by decide +kernel
theorem dX5_write_17 : decode cX5_write 17 = .ok (.bipush (-2), 2) := by decide +kernel
theorem dX5_write_19 : decode cX5_write 19 = .ok (.ireturn, 1) := by decide +kernel
theorem dX5_write_20 : decode cX5_write 20 = .ok (.aload_n 0, 1) := by decide +kernel
theorem dX5_write_21 : decode cX5_write 21 = .ok (.getfield 84, 3) := by decide +kernel
theorem dX5_write_24 : decode cX5_write 24 = .ok (.bipush 80, 2) := by decide +kernel
theorem dX5_write_26 : decode cX5_write 26 = .ok (.if_icmp .ne 6, 3) := by decide +kernel
theorem dX5_write_29 : decode cX5_write 29 = .ok (.bipush (-4), 2) := by decide +kernel
theorem dX5_write_31 : decode cX5_write 31 = .ok (.ireturn, 1) := by decide +kernel
theorem dX5_write_32 : decode cX5_write 32 = .ok (.aload_n 0, 1) := by decide +kernel
theorem dX5_write_33 : decode cX5_write 33 = .ok (.getfield 7, 3) := by decide +kernel
theorem dX5_write_36 : decode cX5_write 36 = .ok (.aload_n 0, 1) := by decide +kernel
theorem dX5_write_37 : decode cX5_write 37 = .ok (.getfield 84, 3) := by decide +kernel
theorem dX5_write_40 : decode cX5_write 40 = .ok (.iload_n 1, 1) := by decide +kernel
theorem dX5_write_41 : decode cX5_write 41 = .ok (.iastore, 1) := by decide +kernel
theorem dX5_write_42 : decode cX5_write 42 = .ok (.aload_n 0, 1) := by decide +kernel
theorem dX5_write_43 : decode cX5_write 43 = .ok (.dup, 1) := by decide +kernel
theorem dX5_write_44 : decode cX5_write 44 = .ok (.getfield 84, 3) := by decide +kernel
theorem dX5_write_47 : decode cX5_write 47 = .ok (.iconst 1, 1) := by decide +kernel
theorem dX5_write_48 : decode cX5_write 48 = .ok (.iadd, 1) := by decide +kernel
theorem dX5_write_49 : decode cX5_write 49 = .ok (.putfield 84, 3) := by decide +kernel
theorem dX5_write_52 : decode cX5_write 52 = .ok (.aload_n 0, 1) := by decide +kernel
theorem dX5_write_53 : decode cX5_write 53 = .ok (.getfield 84, 3) := by decide +kernel
theorem dX5_write_56 : decode cX5_write 56 = .ok (.ireturn, 1) := by decide +kernel
theorem dX5_wipe_0 : decode cX5_wipe 0 = .ok (.aload_n 0, 1) := by decide +kernel
theorem dX5_wipe_1 : decode cX5_wipe 1 = .ok (.iconst 0, 1) := by decide +kernel
theorem dX5_wipe_2 : decode cX5_wipe 2 = .ok (.putfield 51, 3) := by decide +kernel
theorem dX5_wipe_5 : decode cX5_wipe 5 = .ok (.aload_n 0, 1) := by decide +kernel
theorem dX5_wipe_6 : decode cX5_wipe 6 = .ok (.getfield 84, 3) := by decide +kernel
theorem dX5_wipe_9 : decode cX5_wipe 9 = .ok (.istore_n 1, 1) := by decide +kernel
theorem dX5_wipe_10 : decode cX5_wipe 10 = .ok (.aload_n 0, 1) := by decide +kernel
theorem dX5_wipe_11 : decode cX5_wipe 11 = .ok (.iconst 0, 1) := by decide +kernel
theorem dX5_wipe_12 : decode cX5_wipe 12 = .ok (.putfield 84, 3) := by decide +kernel
theorem dX5_wipe_15 : decode cX5_wipe 15 = .ok (.iload_n 1, 1) := by decide +kernel
theorem dX5_wipe_16 : decode cX5_wipe 16 = .ok (.ireturn, 1) := by decide +kernel
theorem dX5_figure_0 : decode cX5_figure 0 = .ok (.aload_n 0, 1) := by decide +kernel
theorem dX5_figure_1 : decode cX5_figure 1 = .ok (.getfield 87, 3) := by decide +kernel
theorem dX5_figure_4 : decode cX5_figure 4 = .ok (.aload_n 0, 1) := by decide +kernel
theorem dX5_figure_5 : decode cX5_figure 5 = .ok (.getfield 84, 3) := by decide +kernel
theorem dX5_figure_8 : decode cX5_figure 8 = .ok (.if_icmp .ge 18, 3) := by decide +kernel
theorem dX5_figure_11 : decode cX5_figure 11 = .ok (.aload_n 0, 1) := by decide +kernel
theorem dX5_figure_12 : decode cX5_figure 12 = .ok (.getfield 7, 3) := by decide +kernel
theorem dX5_figure_15 : decode cX5_figure 15 = .ok (.aload_n 0, 1) := by decide +kernel
theorem dX5_figure_16 : decode cX5_figure 16 = .ok (.getfield 87, 3) := by decide +kernel
theorem dX5_figure_19 : decode cX5_figure 19 = .ok (.iaload, 1) := by decide +kernel
theorem dX5_figure_20 : decode cX5_figure 20 = .ok (.bipush 48, 2) := by decide +kernel
theorem dX5_figure_22 : decode cX5_figure 22 = .ok (.isub, 1) := by decide +kernel
theorem dX5_figure_23 : decode cX5_figure 23 = .ok (.goto 5, 3) := by decide +kernel
theorem dX5_figure_26 : decode cX5_figure 26 = .ok (.bipush (-9), 2) := by decide +kernel
theorem dX5_figure_28 : decode cX5_figure 28 = .ok (.istore_n 3, 1) := by decide +kernel
theorem dX5_figure_29 : decode cX5_figure 29 = .ok (.iload_n 3, 1) := by decide +kernel
theorem dX5_figure_30 : decode cX5_figure 30 = .ok (.i2l, 1) := by decide +kernel
theorem dX5_figure_31 : decode cX5_figure 31 = .ok (.iload_n 1, 1) := by decide +kernel
theorem dX5_figure_32 : decode cX5_figure 32 = .ok (.i2l, 1) := by decide +kernel
theorem dX5_figure_33 : decode cX5_figure 33 = .ok (.iload_n 2, 1) := by decide +kernel
theorem dX5_figure_34 : decode cX5_figure 34 = .ok (.i2l, 1) := by decide +kernel
theorem dX5_figure_35 : decode cX5_figure 35 = .ok (.invokestatic 57, 3) := by decide +kernel
theorem dX5_figure_38 : decode cX5_figure 38 = .ok (.ifCond .ne 6, 3) := by decide +kernel
theorem dX5_figure_41 : decode cX5_figure 41 = .ok (.bipush (-9), 2) := by decide +kernel
theorem dX5_figure_43 : decode cX5_figure 43 = .ok (.ireturn, 1) := by decide +kernel
theorem dX5_figure_44 : decode cX5_figure 44 = .ok (.aload_n 0, 1) := by decide +kernel
theorem dX5_figure_45 : decode cX5_figure 45 = .ok (.dup, 1) := by decide +kernel
theorem dX5_figure_46 : decode cX5_figure 46 = .ok (.getfield 87, 3) := by decide +kernel
theorem dX5_figure_49 : decode cX5_figure 49 = .ok (.iconst 1, 1) := by decide +kernel
theorem dX5_figure_50 : decode cX5_figure 50 = .ok (.iadd, 1) := by decide +kernel
theorem dX5_figure_51 : decode cX5_figure 51 = .ok (.putfield 87, 3) := by decide +kernel
theorem dX5_figure_54 : decode cX5_figure 54 = .ok (.iload_n 3, 1) := by decide +kernel
theorem dX5_figure_55 : decode cX5_figure 55 = .ok (.ireturn, 1) := by decide +kernel
theorem dX5_readNumber_0 : decode cX5_readNumber 0 = .ok (.aload_n 0, 1) := by decide +kernel
theorem dX5_readNumber_1 : decode cX5_readNumber 1 = .ok (.iconst 0, 1) := by decide +kernel
theorem dX5_readNumber_2 : decode cX5_readNumber 2 = .ok (.iconst 2, 1) := by decide +kernel
theorem dX5_readNumber_3 : decode cX5_readNumber 3 = .ok (.invokevirtual 90, 3) := by decide +kernel
theorem dX5_readNumber_6 : decode cX5_readNumber 6 = .ok (.istore_n 1, 1) := by decide +kernel
theorem dX5_readNumber_7 : decode cX5_readNumber 7 = .ok (.iload_n 1, 1) := by decide +kernel
theorem dX5_readNumber_8 : decode cX5_readNumber 8 = .ok (.bipush (-9), 2) := by decide +kernel
theorem dX5_readNumber_10 : decode cX5_readNumber 10 = .ok (.if_icmp .ne 8, 3) := by decide +kernel
theorem dX5_readNumber_13 : decode cX5_readNumber 13 = .ok (.bipush (-9), 2) := by decide +kernel
theorem dX5_readNumber_15 : decode cX5_readNumber 15 = .ok (.goto 19, 3) := by decide +kernel
theorem dX5_readNumber_18 : decode cX5_readNumber 18 = .ok (.aload_n 0, 1) := by decide +kernel
theorem dX5_readNumber_19 : decode cX5_readNumber 19 = .ok (.iconst 0, 1) := by decide +kernel
theorem dX5_readNumber_20 : decode cX5_readNumber 20 = .ok (.iload_n 1, 1) := by decide +kernel
theorem dX5_readNumber_21 : decode cX5_readNumber 21 = .ok (.iconst 2, 1) := by decide +kernel
theorem dX5_readNumber_22 : decode cX5_readNumber 22 = .ok (.if_icmp .ne 7, 3) := by decide +kernel
theorem dX5_readNumber_25 : decode cX5_readNumber 25 = .ok (.iconst 5, 1) := by decide +kernel
theorem dX5_readNumber_26 : decode cX5_readNumber 26 = .ok (.goto 5, 3) := by decide +kernel
theorem dX5_readNumber_29 : decode cX5_readNumber 29 = .ok (.bipush 9, 2) := by decide +kernel
theorem dX5_readNumber_31 : decode cX5_readNumber 31 = .ok (.invokevirtual 90, 3) := by decide +kernel
theorem dX5_readNumber_34 : decode cX5_readNumber 34 = .ok (.istore_n 2, 1) := by decide +kernel
theorem dX5_readNumber_35 : decode cX5_readNumber 35 = .ok (.iload_n 2, 1) := by decide +kernel
theorem dX5_readNumber_36 : decode cX5_readNumber 36 = .ok (.bipush (-9), 2) := by decide +kernel
theorem dX5_readNumber_38 : decode cX5_readNumber 38 = .ok (.if_icmp .ne 8, 3) := by decide +kernel
theorem dX5_readNumber_41 : decode cX5_readNumber 41 = .ok (.bipush (-9), 2) := by decide +kernel
theorem dX5_readNumber_43 : decode cX5_readNumber 43 = .ok (.goto 24, 3) := by decide +kernel
theorem dX5_readNumber_46 : decode cX5_readNumber 46 = .ok (.aload_n 0, 1) := by decide +kernel
theorem dX5_readNumber_47 : decode cX5_readNumber 47 = .ok (.iconst 0, 1) := by decide +kernel
theorem dX5_readNumber_48 : decode cX5_readNumber 48 = .ok (.iload_n 1, 1) := by decide +kernel
theorem dX5_readNumber_49 : decode cX5_readNumber 49 = .ok (.iconst 2, 1) := by decide +kernel
theorem dX5_readNumber_50 : decode cX5_readNumber 50 = .ok (.if_icmp .ne 12, 3) := by decide +kernel
theorem dX5_readNumber_53 : decode cX5_readNumber 53 = .ok (.iload_n 2, 1) := by decide +kernel
theorem dX5_readNumber_54 : decode cX5_readNumber 54 = .ok (.iconst 5, 1) := by decide +kernel
theorem dX5_readNumber_55 : decode cX5_readNumber 55 = .ok (.if_icmp .ne 7, 3) := by decide +kernel
theorem dX5_readNumber_58 : decode cX5_readNumber 58 = .ok (.iconst 0, 1) := by decide +kernel
theorem dX5_readNumber_59 : decode cX5_readNumber 59 = .ok (.goto 5, 3) := by decide +kernel
theorem dX5_readNumber_62 : decode cX5_readNumber 62 = .ok (.bipush 9, 2) := by decide +kernel
theorem dX5_readNumber_64 : decode cX5_readNumber 64 = .ok (.invokevirtual 90, 3) := by decide +kernel
theorem dX5_readNumber_67 : decode cX5_readNumber 67 = .ok (.istore_n 3, 1) := by decide +kernel
theorem dX5_readNumber_68 : decode cX5_readNumber 68 = .ok (.iload_n 3, 1) := by decide +kernel
theorem dX5_readNumber_69 : decode cX5_readNumber 69 = .ok (.bipush (-9), 2) := by decide +kernel
theorem dX5_readNumber_71 : decode cX5_readNumber 71 = .ok (.if_icmp .ne 8, 3) := by decide +kernel
theorem dX5_readNumber_74 : decode cX5_readNumber 74 = .ok (.bipush (-9), 2) := by decide +kernel
theorem dX5_readNumber_76 : decode cX5_readNumber 76 = .ok (.goto 14, 3) := by decide +kernel
theorem dX5_readNumber_79 : decode cX5_readNumber 79 = .ok (.bipush 100, 2) := by decide +kernel
theorem dX5_readNumber_81 : decode cX5_readNumber 81 = .ok (.iload_n 1, 1) := by decide +kernel
theorem dX5_readNumber_82 : decode cX5_readNumber 82 = .ok (.imul, 1) := by decide +kernel
theorem dX5_readNumber_83 : decode cX5_readNumber 83 = .ok (.bipush 10, 2) := by decide +kernel
theorem dX5_readNumber_85 : decode cX5_readNumber 85 = .ok (.iload_n 2, 1) := by decide +kernel
theorem dX5_readNumber_86 : decode cX5_readNumber 86 = .ok (.imul, 1) := by decide +kernel
theorem dX5_readNumber_87 : decode cX5_readNumber 87 = .ok (.iadd, 1) := by decide +kernel
theorem dX5_readNumber_88 : decode cX5_readNumber 88 = .ok (.iload_n 3, 1) := by decide +kernel
theorem dX5_readNumber_89 : decode cX5_readNumber 89 = .ok (.iadd, 1) := by decide +kernel
theorem dX5_readNumber_90 : decode cX5_readNumber 90 = .ok (.ireturn, 1) := by decide +kernel
theorem dX5_readUser_0 : decode cX5_readUser 0 = .ok (.aload_n 0, 1) := by decide +kernel
theorem dX5_readUser_1 : decode cX5_readUser 1 = .ok (.getfield 13, 3) := by decide +kernel
theorem dX5_readUser_4 : decode cX5_readUser 4 = .ok (.bipush 24, 2) := by decide +kernel
theorem dX5_readUser_6 : decode cX5_readUser 6 = .ok (.iaload, 1) := by decide +kernel
theorem dX5_readUser_7 : decode cX5_readUser 7 = .ok (.iconst 4, 1) := by decide +kernel
theorem dX5_readUser_8 : decode cX5_readUser 8 = .ok (.if_icmp .eq 10, 3) := by decide +kernel
theorem dX5_readUser_11 : decode cX5_readUser 11 = .ok (.aload_n 0, 1) := by decide +kernel
theorem dX5_readUser_12 : decode cX5_readUser 12 = .ok (.getfield 94, 3) := by decide +kernel
theorem dX5_readUser_15 : decode cX5_readUser 15 = .ok (.ifCond .le 5, 3) := by decide +kernel
theorem dX5_readUser_18 : decode cX5_readUser 18 = .ok (.iconst 0, 1) := by decide +kernel
theorem dX5_readUser_19 : decode cX5_readUser 19 = .ok (.ireturn, 1) := by decide +kernel
theorem dX5_readUser_20 : decode cX5_readUser 20 = .ok (.aload_n 0, 1) := by decide +kernel
theorem dX5_readUser_21 : decode cX5_readUser 21 = .ok (.dup, 1) := by decide +kernel
theorem dX5_readUser_22 : decode cX5_readUser 22 = .ok (.getfield 87, 3) := by decide +kernel
theorem dX5_readUser_25 : decode cX5_readUser 25 = .ok (.iconst 1, 1) := by decide +kernel
theorem dX5_readUser_26 : decode cX5_readUser 26 = .ok (.iadd, 1) := by decide +kernel
theorem dX5_readUser_27 : decode cX5_readUser 27 = .ok (.putfield 87, 3) := by decide +kernel
theorem dX5_readUser_30 : decode cX5_readUser 30 = .ok (.aload_n 0, 1) := by decide +kernel
theorem dX5_readUser_31 : decode cX5_readUser 31 = .ok (.invokevirtual 97, 3) := by decide +kernel
theorem dX5_readUser_34 : decode cX5_readUser 34 = .ok (.istore_n 1, 1) := by decide +kernel
theorem dX5_readUser_35 : decode cX5_readUser 35 = .ok (.iload_n 1, 1) := by decide +kernel
theorem dX5_readUser_36 : decode cX5_readUser 36 = .ok (.bipush (-9), 2) := by decide +kernel
theorem dX5_readUser_38 : decode cX5_readUser 38 = .ok (.if_icmp .ne 8, 3) := by decide +kernel
theorem dX5_readUser_41 : decode cX5_readUser 41 = .ok (.bipush (-9), 2) := by decide +kernel
theorem dX5_readUser_43 : decode cX5_readUser 43 = .ok (.goto 7, 3) := by decide +kernel
theorem dX5_readUser_46 : decode cX5_readUser 46 = .ok (.aload_n 0, 1) := by decide +kernel
theorem dX5_readUser_47 : decode cX5_readUser 47 = .ok (.invokevirtual 97, 3) := by decide +kernel
theorem dX5_readUser_50 : decode cX5_readUser 50 = .ok (.istore_n 2, 1) := by decide +kernel
theorem dX5_readUser_51 : decode cX5_readUser 51 = .ok (.iload_n 2, 1) := by decide +kernel
theorem dX5_readUser_52 : decode cX5_readUser 52 = .ok (.bipush (-9), 2) := by decide +kernel
theorem dX5_readUser_54 : decode cX5_readUser 54 = .ok (.if_icmp .ne 8, 3) := by decide +kernel
theorem dX5_readUser_57 : decode cX5_readUser 57 = .ok (.bipush (-9), 2) := by decide +kernel
theorem dX5_readUser_59 : decode cX5_readUser 59 = .ok (.goto 9, 3) := by decide +kernel
theorem dX5_readUser_62 : decode cX5_readUser 62 = .ok (.aload_n 0, 1) := by decide +kernel
theorem dX5_readUser_63 : decode cX5_readUser 63 = .ok (.iconst 0, 1) := by decide +kernel
theorem dX5_readUser_64 : decode cX5_readUser 64 = .ok (.iconst 3, 1) := by decide +kernel
theorem dX5_readUser_65 : decode cX5_readUser 65 = .ok (.invokevirtual 90, 3) := by decide +kernel
theorem dX5_readUser_68 : decode cX5_readUser 68 = .ok (.istore_n 3, 1) := by decide +kernel
theorem dX5_readUser_69 : decode cX5_readUser 69 = .ok (.iload_n 3, 1) := by decide +kernel
theorem dX5_readUser_70 : decode cX5_readUser 70 = .ok (.bipush (-9), 2) := by decide +kernel
theorem dX5_readUser_72 : decode cX5_readUser 72 = .ok (.if_icmp .ne 8, 3) := by decide +kernel
theorem dX5_readUser_75 : decode cX5_readUser 75 = .ok (.bipush (-9), 2) := by decide +kernel
theorem dX5_readUser_77 : decode cX5_readUser 77 = .ok (.goto 27, 3) := by decide +kernel
theorem dX5_readUser_80 : decode cX5_readUser 80 = .ok (.aload_n 0, 1) := by decide +kernel
theorem dX5_readUser_81 : decode cX5_readUser 81 = .ok (.iload_n 3, 1) := by decide +kernel
theorem dX5_readUser_82 : decode cX5_readUser 82 = .ok (.ifCond .ne 7, 3) := by decide +kernel
theorem dX5_readUser_85 : decode cX5_readUser 85 = .ok (.iconst 1, 1) := by decide +kernel
theorem dX5_readUser_86 : decode cX5_readUser 86 = .ok (.goto 4, 3) := by decide +kernel
theorem dX5_readUser_89 : decode cX5_readUser 89 = .ok (.iconst 0, 1) := by decide +kernel
theorem dX5_readUser_90 : decode cX5_readUser 90 = .ok (.iload_n 3, 1) := by decide +kernel
theorem dX5_readUser_91 : decode cX5_readUser 91 = .ok (.iconst 3, 1) := by decide +kernel
theorem dX5_readUser_92 : decode cX5_readUser 92 = .ok (.if_icmp .ne 7, 3) := by decide +kernel
theorem dX5_readUser_95 : decode cX5_readUser 95 = .ok (.iconst 0, 1) := by decide +kernel
theorem dX5_readUser_96 : decode cX5_readUser 96 = .ok (.goto 5, 3) := by decide +kernel
theorem dX5_readUser_99 : decode cX5_readUser 99 = .ok (.bipush 9, 2) := by decide +kernel
theorem dX5_readUser_101 : decode cX5_readUser 101 = .ok (.invokevirtual 90, 3) := by decide +kernel
theorem dX5_readUser_104 : decode cX5_readUser 104 = .ok (.istore 4, 2) := by decide +kernel
theorem dX5_readUser_106 : decode cX5_readUser 106 = .ok (.iload 4, 2) := by decide +kernel
theorem dX5_readUser_108 : decode cX5_readUser 108 = .ok (.bipush (-9), 2) := by decide +kernel
theorem dX5_readUser_110 : decode cX5_readUser 110 = .ok (.if_icmp .ne 5, 3) := by decide +kernel
theorem dX5_readUser_113 : decode cX5_readUser 113 = .ok (.iconst 0, 1) := by decide +kernel
theorem dX5_readUser_114 : decode cX5_readUser 114 = .ok (.ireturn, 1) := by decide +kernel
theorem dX5_readUser_115 : decode cX5_readUser 115 = .ok (.aload_n 0, 1) := by decide +kernel
theorem dX5_readUser_116 : decode cX5_readUser 116 = .ok (.getfield 13, 3) := by decide +kernel
theorem dX5_readUser_119 : decode cX5_readUser 119 = .ok (.aload_n 0, 1) := by decide +kernel
theorem dX5_readUser_120 : decode cX5_readUser 120 = .ok (.getfield 13, 3) := by decide +kernel
theorem dX5_readUser_123 : decode cX5_readUser 123 = .ok (.bipush 24, 2) := by decide +kernel
theorem dX5_readUser_125 : decode cX5_readUser 125 = .ok (.iaload, 1) := by decide +kernel
theorem dX5_readUser_126 : decode cX5_readUser 126 = .ok (.iload_n 1, 1) := by decide +kernel
theorem dX5_readUser_127 : decode cX5_readUser 127 = .ok (.iload_n 2, 1) := by decide +kernel
theorem dX5_readUser_128 : decode cX5_readUser 128 = .ok (.bipush 10, 2) := by decide +kernel
theorem dX5_readUser_130 : decode cX5_readUser 130 = .ok (.iload_n 3, 1) := by decide +kernel
theorem dX5_readUser_131 : decode cX5_readUser 131 = .ok (.imul, 1) := by decide +kernel
theorem dX5_readUser_132 : decode cX5_readUser 132 = .ok (.iload 4, 2) := by decide +kernel
theorem dX5_readUser_134 : decode cX5_readUser 134 = .ok (.iadd, 1) := by decide +kernel
theorem dX5_readUser_135 : decode cX5_readUser 135 = .ok (.invokestatic 101, 3) := by decide +kernel
theorem dX5_readUser_138 : decode cX5_readUser 138 = .ok (.aload_n 0, 1) := by decide +kernel
theorem dX5_readUser_139 : decode cX5_readUser 139 = .ok (.getfield 13, 3) := by decide +kernel
theorem dX5_readUser_142 : decode cX5_readUser 142 = .ok (.bipush 24, 2) := by decide +kernel
theorem dX5_readUser_144 : decode cX5_readUser 144 = .ok (.dup2, 1) := by decide +kernel
theorem dX5_readUser_145 : decode cX5_readUser 145 = .ok (.iaload, 1) := by decide +kernel
theorem dX5_readUser_146 : decode cX5_readUser 146 = .ok (.iconst 1, 1) := by decide +kernel
theorem dX5_readUser_147 : decode cX5_readUser 147 = .ok (.iadd, 1) := by decide +kernel
theorem dX5_readUser_148 : decode cX5_readUser 148 = .ok (.iastore, 1) := by decide +kernel
theorem dX5_readUser_149 : decode cX5_readUser 149 = .ok (.iconst 1, 1) := by decide +kernel
theorem dX5_readUser_150 : decode cX5_readUser 150 = .ok (.ireturn, 1) := by decide +kernel
theorem dX5_readEvent_0 : decode cX5_readEvent 0 = .ok (.iconst 0, 1) := by decide +kernel
theorem dX5_readEvent_1 : decode cX5_readEvent 1 = .ok (.istore_n 2, 1) := by decide +kernel
theorem dX5_readEvent_2 : decode cX5_readEvent 2 = .ok (.iconst 0, 1) := by decide +kernel
theorem dX5_readEvent_3 : decode cX5_readEvent 3 = .ok (.istore_n 3, 1) := by decide +kernel
theorem dX5_readEvent_4 : decode cX5_readEvent 4 = .ok (.iload_n 3, 1) := by decide +kernel
theorem dX5_readEvent_5 : decode cX5_readEvent 5 = .ok (.aload_n 0, 1) := by decide +kernel
theorem dX5_readEvent_6 : decode cX5_readEvent 6 = .ok (.getfield 13, 3) := by decide +kernel
theorem dX5_readEvent_9 : decode cX5_readEvent 9 = .ok (.bipush 24, 2) := by decide +kernel
theorem dX5_readEvent_11 : decode cX5_readEvent 11 = .ok (.iaload, 1) := by decide +kernel
theorem dX5_readEvent_12 : decode cX5_readEvent 12 = .ok (.if_icmp .ge 33, 3) := by decide +kernel
theorem dX5_readEvent_15 : decode cX5_readEvent 15 = .ok (.iload_n 2, 1) := by decide +kernel
theorem dX5_readEvent_16 : decode cX5_readEvent 16 = .ok (.ifCond .ne 17, 3) := by decide +kernel
theorem dX5_readEvent_19 : decode cX5_readEvent 19 = .ok (.aload_n 0, 1) := by decide +kernel
theorem dX5_readEvent_20 : decode cX5_readEvent 20 = .ok (.getfield 13, 3) := by decide +kernel
theorem dX5_readEvent_23 : decode cX5_readEvent 23 = .ok (.bipush 6, 2) := by decide +kernel
theorem dX5_readEvent_25 : decode cX5_readEvent 25 = .ok (.iload_n 3, 1) := by decide +kernel
theorem dX5_readEvent_26 : decode cX5_readEvent 26 = .ok (.imul, 1) := by decide +kernel
theorem dX5_readEvent_27 : decode cX5_readEvent 27 = .ok (.iconst 3, 1) := by decide +kernel
theorem dX5_readEvent_28 : decode cX5_readEvent 28 = .ok (.iadd, 1) := by decide +kernel
theorem dX5_readEvent_29 : decode cX5_readEvent 29 = .ok (.iaload, 1) := by decide +kernel
theorem dX5_readEvent_30 : decode cX5_readEvent 30 = .ok (.ifCond .le 7, 3) := by decide +kernel
theorem dX5_readEvent_33 : decode cX5_readEvent 33 = .ok (.iconst 1, 1) := by decide +kernel
theorem dX5_readEvent_34 : decode cX5_readEvent 34 = .ok (.goto 4, 3) := by decide +kernel
theorem dX5_readEvent_37 : decode cX5_readEvent 37 = .ok (.iconst 0, 1) := by decide +kernel
theorem dX5_readEvent_38 : decode cX5_readEvent 38 = .ok (.istore_n 2, 1) := by decide +kernel
theorem dX5_readEvent_39 : decode cX5_readEvent 39 = .ok (.iinc 3 1, 3) := by decide +kernel
theorem dX5_readEvent_42 : decode cX5_readEvent 42 = .ok (.goto (-38), 3) := by decide +kernel
theorem dX5_readEvent_45 : decode cX5_readEvent 45 = .ok (.iload_n 2, 1) := by decide +kernel
theorem dX5_readEvent_46 : decode cX5_readEvent 46 = .ok (.ifCond .ne 5, 3) := by decide +kernel
theorem dX5_readEvent_49 : decode cX5_readEvent 49 = .ok (.iconst 0, 1) := by decide +kernel
theorem dX5_readEvent_50 : decode cX5_readEvent 50 = .ok (.ireturn, 1) := by decide +kernel
theorem dX5_readEvent_51 : decode cX5_readEvent 51 = .ok (.aload_n 0, 1) := by decide +kernel
theorem dX5_readEvent_52 : decode cX5_readEvent 52 = .ok (.dup, 1) := by decide +kernel
theorem dX5_readEvent_53 : decode cX5_readEvent 53 = .ok (.getfield 87, 3) := by decide +kernel
theorem dX5_readEvent_56 : decode cX5_readEvent 56 = .ok (.iconst 1, 1) := by decide +kernel
theorem dX5_readEvent_57 : decode cX5_readEvent 57 = .ok (.iadd, 1) := by decide +kernel
theorem dX5_readEvent_58 : decode cX5_readEvent 58 = .ok (.putfield 87, 3) := by decide +kernel
theorem dX5_readEvent_61 : decode cX5_readEvent 61 = .ok (.aload_n 0, 1) := by decide +kernel
theorem dX5_readEvent_62 : decode cX5_readEvent 62 = .ok (.getfield 87, 3) := by decide +kernel
theorem dX5_readEvent_65 : decode cX5_readEvent 65 = .ok (.aload_n 0, 1) := by decide +kernel
theorem dX5_readEvent_66 : decode cX5_readEvent 66 = .ok (.getfield 84, 3) := by decide +kernel
theorem dX5_readEvent_69 : decode cX5_readEvent 69 = .ok (.if_icmp .ge 18, 3) := by decide +kernel
theorem dX5_readEvent_72 : decode cX5_readEvent 72 = .ok (.aload_n 0, 1) := by decide +kernel
theorem dX5_readEvent_73 : decode cX5_readEvent 73 = .ok (.getfield 7, 3) := by decide +kernel
theorem dX5_readEvent_76 : decode cX5_readEvent 76 = .ok (.aload_n 0, 1) := by decide +kernel
theorem dX5_readEvent_77 : decode cX5_readEvent 77 = .ok (.getfield 87, 3) := by decide +kernel
theorem dX5_readEvent_80 : decode cX5_readEvent 80 = .ok (.iaload, 1) := by decide +kernel
theorem dX5_readEvent_81 : decode cX5_readEvent 81 = .ok (.bipush 48, 2) := by decide +kernel
theorem dX5_readEvent_83 : decode cX5_readEvent 83 = .ok (.isub, 1) := by decide +kernel
theorem dX5_readEvent_84 : decode cX5_readEvent 84 = .ok (.goto 5, 3) := by decide +kernel
theorem dX5_readEvent_87 : decode cX5_readEvent 87 = .ok (.bipush (-9), 2) := by decide +kernel
theorem dX5_readEvent_89 : decode cX5_readEvent 89 = .ok (.istore_n 3, 1) := by decide +kernel
theorem dX5_readEvent_90 : decode cX5_readEvent 90 = .ok (.aload_n 0, 1) := by decide +kernel
theorem dX5_readEvent_91 : decode cX5_readEvent 91 = .ok (.getfield 13, 3) := by decide +kernel
theorem dX5_readEvent_94 : decode cX5_readEvent 94 = .ok (.iload_n 3, 1) := by decide +kernel
theorem dX5_readEvent_95 : decode cX5_readEvent 95 = .ok (.invokestatic 79, 3) := by decide +kernel
theorem dX5_readEvent_98 : decode cX5_readEvent 98 = .ok (.ifCond .ne 5, 3) := by decide +kernel
theorem dX5_readEvent_101 : decode cX5_readEvent 101 = .ok (.iconst 0, 1) := by decide +kernel
theorem dX5_readEvent_102 : decode cX5_readEvent 102 = .ok (.ireturn, 1) := by decide +kernel
theorem dX5_readEvent_103 : decode cX5_readEvent 103 = .ok (.aload_n 0, 1) := by decide +kernel
theorem dX5_readEvent_104 : decode cX5_readEvent 104 = .ok (.dup, 1) := by decide +kernel
theorem dX5_readEvent_105 : decode cX5_readEvent 105 = .ok (.getfield 87, 3) := by decide +kernel
theorem dX5_readEvent_108 : decode cX5_readEvent 108 = .ok (.iconst 1, 1) := by decide +kernel
theorem dX5_readEvent_109 : decode cX5_readEvent 109 = .ok (.iadd, 1) := by decide +kernel
theorem dX5_readEvent_110 : decode cX5_readEvent 110 = .ok (.putfield 87, 3) := by decide +kernel
theorem dX5_readEvent_113 : decode cX5_readEvent 113 = .ok (.aload_n 0, 1) := by decide +kernel
theorem dX5_readEvent_114 : decode cX5_readEvent 114 = .ok (.getfield 16, 3) := by decide +kernel
theorem dX5_readEvent_117 : decode cX5_readEvent 117 = .ok (.aload_n 0, 1) := by decide +kernel
theorem dX5_readEvent_118 : decode cX5_readEvent 118 = .ok (.getfield 94, 3) := by decide +kernel
theorem dX5_readEvent_121 : decode cX5_readEvent 121 = .ok (.bipush 10, 2) := by decide +kernel
theorem dX5_readEvent_123 : decode cX5_readEvent 123 = .ok (.iload_n 3, 1) := by decide +kernel
theorem dX5_readEvent_124 : decode cX5_readEvent 124 = .ok (.imul, 1) := by decide +kernel
theorem dX5_readEvent_125 : decode cX5_readEvent 125 = .ok (.iload_n 1, 1) := by decide +kernel
theorem dX5_readEvent_126 : decode cX5_readEvent 126 = .ok (.ifCond .eq 7, 3) := by decide +kernel
theorem dX5_readEvent_129 : decode cX5_readEvent 129 = .ok (.iconst 1, 1) := by decide +kernel
theorem dX5_readEvent_130 : decode cX5_readEvent 130 = .ok (.goto 4, 3) := by decide +kernel
theorem dX5_readEvent_133 : decode cX5_readEvent 133 = .ok (.iconst 0, 1) := by decide +kernel
theorem dX5_readEvent_134 : decode cX5_readEvent 134 = .ok (.iadd, 1) := by decide +kernel
theorem dX5_readEvent_135 : decode cX5_readEvent 135 = .ok (.iastore, 1) := by decide +kernel
theorem dX5_readEvent_136 : decode cX5_readEvent 136 = .ok (.aload_n 0, 1) := by decide +kernel
theorem dX5_readEvent_137 : decode cX5_readEvent 137 = .ok (.dup, 1) := by decide +kernel
theorem dX5_readEvent_138 : decode cX5_readEvent 138 = .ok (.getfield 94, 3) := by decide +kernel
theorem dX5_readEvent_141 : decode cX5_readEvent 141 = .ok (.iconst 1, 1) := by decide +kernel
theorem dX5_readEvent_142 : decode cX5_readEvent 142 = .ok (.iadd, 1) := by decide +kernel
theorem dX5_readEvent_143 : decode cX5_readEvent 143 = .ok (.putfield 94, 3) := by decide +kernel
theorem dX5_readEvent_146 : decode cX5_readEvent 146 = .ok (.aload_n 0, 1) := by decide +kernel
theorem dX5_readEvent_147 : decode cX5_readEvent 147 = .ok (.getfield 13, 3) := by decide +kernel
theorem dX5_readEvent_150 : decode cX5_readEvent 150 = .ok (.bipush 6, 2) := by decide +kernel
theorem dX5_readEvent_152 : decode cX5_readEvent 152 = .ok (.iload_n 3, 1) := by decide +kernel
theorem dX5_readEvent_153 : decode cX5_readEvent 153 = .ok (.imul, 1) := by decide +kernel
theorem dX5_readEvent_154 : decode cX5_readEvent 154 = .ok (.iconst 3, 1) := by decide +kernel
theorem dX5_readEvent_155 : decode cX5_readEvent 155 = .ok (.iadd, 1) := by decide +kernel
theorem dX5_readEvent_156 : decode cX5_readEvent 156 = .ok (.dup2, 1) := by decide +kernel
theorem dX5_readEvent_157 : decode cX5_readEvent 157 = .ok (.iaload, 1) := by decide +kernel
theorem dX5_readEvent_158 : decode cX5_readEvent 158 = .ok (.iconst 1, 1) := by decide +kernel
theorem dX5_readEvent_159 : decode cX5_readEvent 159 = .ok (.isub, 1) := by decide +kernel
theorem dX5_readEvent_160 : decode cX5_readEvent 160 = .ok (.iastore, 1) := by decide +kernel
theorem dX5_readEvent_161 : decode cX5_readEvent 161 = .ok (.iconst 1, 1) := by decide +kernel
theorem dX5_readEvent_162 : decode cX5_readEvent 162 = .ok (.ireturn, 1) := by decide +kernel
theorem dX5_readDesk_0 : decode cX5_readDesk 0 = .ok (.aload_n 0, 1) := by decide +kernel
theorem dX5_readDesk_1 : decode cX5_readDesk 1 = .ok (.iconst 0, 1) := by decide +kernel
theorem dX5_readDesk_2 : decode cX5_readDesk 2 = .ok (.putfield 87, 3) := by decide +kernel
theorem dX5_readDesk_5 : decode cX5_readDesk 5 = .ok (.aload_n 0, 1) := by decide +kernel
theorem dX5_readDesk_6 : decode cX5_readDesk 6 = .ok (.iconst 0, 1) := by decide +kernel
theorem dX5_readDesk_7 : decode cX5_readDesk 7 = .ok (.putfield 94, 3) := by decide +kernel
theorem dX5_readDesk_10 : decode cX5_readDesk 10 = .ok (.aload_n 0, 1) := by decide +kernel
theorem dX5_readDesk_11 : decode cX5_readDesk 11 = .ok (.getfield 13, 3) := by decide +kernel
theorem dX5_readDesk_14 : decode cX5_readDesk 14 = .ok (.invokestatic 47, 3) := by decide +kernel
theorem dX5_readDesk_17 : decode cX5_readDesk 17 = .ok (.aload_n 0, 1) := by decide +kernel
theorem dX5_readDesk_18 : decode cX5_readDesk 18 = .ok (.getfield 84, 3) := by decide +kernel
theorem dX5_readDesk_21 : decode cX5_readDesk 21 = .ok (.ifCond .eq 14, 3) := by decide +kernel
theorem dX5_readDesk_24 : decode cX5_readDesk 24 = .ok (.aload_n 0, 1) := by decide +kernel
theorem dX5_readDesk_25 : decode cX5_readDesk 25 = .ok (.getfield 7, 3) := by decide +kernel
theorem dX5_readDesk_28 : decode cX5_readDesk 28 = .ok (.iconst 0, 1) := by decide +kernel
theorem dX5_readDesk_29 : decode cX5_readDesk 29 = .ok (.iaload, 1) := by decide +kernel
theorem dX5_readDesk_30 : decode cX5_readDesk 30 = .ok (.bipush 83, 2) := by decide +kernel
theorem dX5_readDesk_32 : decode cX5_readDesk 32 = .ok (.if_icmp .eq 5, 3) := by decide +kernel
theorem dX5_readDesk_35 : decode cX5_readDesk 35 = .ok (.iconst 0, 1) := by decide +kernel
theorem dX5_readDesk_36 : decode cX5_readDesk 36 = .ok (.ireturn, 1) := by decide +kernel
theorem dX5_readDesk_37 : decode cX5_readDesk 37 = .ok (.aload_n 0, 1) := by decide +kernel
theorem dX5_readDesk_38 : decode cX5_readDesk 38 = .ok (.iconst 1, 1) := by decide +kernel
theorem dX5_readDesk_39 : decode cX5_readDesk 39 = .ok (.putfield 87, 3) := by decide +kernel
theorem dX5_readDesk_42 : decode cX5_readDesk 42 = .ok (.aload_n 0, 1) := by decide +kernel
theorem dX5_readDesk_43 : decode cX5_readDesk 43 = .ok (.getfield 13, 3) := by decide +kernel
theorem dX5_readDesk_46 : decode cX5_readDesk 46 = .ok (.bipush 25, 2) := by decide +kernel
theorem dX5_readDesk_48 : decode cX5_readDesk 48 = .ok (.aload_n 0, 1) := by decide +kernel
theorem dX5_readDesk_49 : decode cX5_readDesk 49 = .ok (.iconst 1, 1) := by decide +kernel
theorem dX5_readDesk_50 : decode cX5_readDesk 50 = .ok (.bipush 6, 2) := by decide +kernel
theorem dX5_readDesk_52 : decode cX5_readDesk 52 = .ok (.invokevirtual 90, 3) := by decide +kernel
theorem dX5_readDesk_55 : decode cX5_readDesk 55 = .ok (.iastore, 1) := by decide +kernel
theorem dX5_readDesk_56 : decode cX5_readDesk 56 = .ok (.aload_n 0, 1) := by decide +kernel
theorem dX5_readDesk_57 : decode cX5_readDesk 57 = .ok (.getfield 13, 3) := by decide +kernel
theorem dX5_readDesk_60 : decode cX5_readDesk 60 = .ok (.bipush 25, 2) := by decide +kernel
theorem dX5_readDesk_62 : decode cX5_readDesk 62 = .ok (.iaload, 1) := by decide +kernel
theorem dX5_readDesk_63 : decode cX5_readDesk 63 = .ok (.bipush (-9), 2) := by decide +kernel
theorem dX5_readDesk_65 : decode cX5_readDesk 65 = .ok (.if_icmp .ne 8, 3) := by decide +kernel
theorem dX5_readDesk_68 : decode cX5_readDesk 68 = .ok (.aload_n 0, 1) := by decide +kernel
theorem dX5_readDesk_69 : decode cX5_readDesk 69 = .ok (.getfield 87, 3) := by decide +kernel
theorem dX5_readDesk_72 : decode cX5_readDesk 72 = .ok (.ireturn, 1) := by decide +kernel
theorem dX5_readDesk_73 : decode cX5_readDesk 73 = .ok (.aload_n 0, 1) := by decide +kernel
theorem dX5_readDesk_74 : decode cX5_readDesk 74 = .ok (.getfield 87, 3) := by decide +kernel
theorem dX5_readDesk_77 : decode cX5_readDesk 77 = .ok (.aload_n 0, 1) := by decide +kernel
theorem dX5_readDesk_78 : decode cX5_readDesk 78 = .ok (.getfield 84, 3) := by decide +kernel
theorem dX5_readDesk_81 : decode cX5_readDesk 81 = .ok (.if_icmp .ge 74, 3) := by decide +kernel
theorem dX5_readDesk_84 : decode cX5_readDesk 84 = .ok (.aload_n 0, 1) := by decide +kernel
theorem dX5_readDesk_85 : decode cX5_readDesk 85 = .ok (.getfield 7, 3) := by decide +kernel
theorem dX5_readDesk_88 : decode cX5_readDesk 88 = .ok (.aload_n 0, 1) := by decide +kernel
theorem dX5_readDesk_89 : decode cX5_readDesk 89 = .ok (.getfield 87, 3) := by decide +kernel
theorem dX5_readDesk_92 : decode cX5_readDesk 92 = .ok (.iaload, 1) := by decide +kernel
theorem dX5_readDesk_93 : decode cX5_readDesk 93 = .ok (.istore_n 1, 1) := by decide +kernel
theorem dX5_readDesk_94 : decode cX5_readDesk 94 = .ok (.iload_n 1, 1) := by decide +kernel
theorem dX5_readDesk_95 : decode cX5_readDesk 95 = .ok (.bipush 117, 2) := by decide +kernel
theorem dX5_readDesk_97 : decode cX5_readDesk 97 = .ok (.if_icmp .ne 10, 3) := by decide +kernel
theorem dX5_readDesk_100 : decode cX5_readDesk 100 = .ok (.aload_n 0, 1) := by decide +kernel
theorem dX5_readDesk_101 : decode cX5_readDesk 101 = .ok (.invokevirtual 105, 3) := by decide +kernel
theorem dX5_readDesk_104 : decode cX5_readDesk 104 = .ok (.goto 38, 3) := by decide +kernel
theorem dX5_readDesk_107 : decode cX5_readDesk 107 = .ok (.iload_n 1, 1) := by decide +kernel
theorem dX5_readDesk_108 : decode cX5_readDesk 108 = .ok (.bipush 115, 2) := by decide +kernel
theorem dX5_readDesk_110 : decode cX5_readDesk 110 = .ok (.if_icmp .eq 9, 3) := by decide +kernel
theorem dX5_readDesk_113 : decode cX5_readDesk 113 = .ok (.iload_n 1, 1) := by decide +kernel
theorem dX5_readDesk_114 : decode cX5_readDesk 114 = .ok (.bipush 109, 2) := by decide +kernel
theorem dX5_readDesk_116 : decode cX5_readDesk 116 = .ok (.if_icmp .ne 25, 3) := by decide +kernel
theorem dX5_readDesk_119 : decode cX5_readDesk 119 = .ok (.aload_n 0, 1) := by decide +kernel
theorem dX5_readDesk_120 : decode cX5_readDesk 120 = .ok (.iload_n 1, 1) := by decide +kernel
theorem dX5_readDesk_121 : decode cX5_readDesk 121 = .ok (.bipush 109, 2) := by decide +kernel
theorem dX5_readDesk_123 : decode cX5_readDesk 123 = .ok (.if_icmp .ne 7, 3) := by decide +kernel
theorem dX5_readDesk_126 : decode cX5_readDesk 126 = .ok (.iconst 1, 1) := by decide +kernel
theorem dX5_readDesk_127 : decode cX5_readDesk 127 = .ok (.goto 4, 3) := by decide +kernel
theorem dX5_readDesk_130 : decode cX5_readDesk 130 = .ok (.iconst 0, 1) := by decide +kernel
theorem dX5_readDesk_131 : decode cX5_readDesk 131 = .ok (.invokevirtual 109, 3) := by decide +kernel
theorem dX5_readDesk_134 : decode cX5_readDesk 134 = .ok (.ifCond .eq 7, 3) := by decide +kernel
theorem dX5_readDesk_137 : decode cX5_readDesk 137 = .ok (.iconst 1, 1) := by decide +kernel
theorem dX5_readDesk_138 : decode cX5_readDesk 138 = .ok (.goto 4, 3) := by decide +kernel
theorem dX5_readDesk_141 : decode cX5_readDesk 141 = .ok (.iconst 0, 1) := by decide +kernel
theorem dX5_readDesk_142 : decode cX5_readDesk 142 = .ok (.istore_n 2, 1) := by decide +kernel
theorem dX5_readDesk_143 : decode cX5_readDesk 143 = .ok (.iload_n 2, 1) := by decide +kernel
theorem dX5_readDesk_144 : decode cX5_readDesk 144 = .ok (.ifCond .ne 8, 3) := by decide +kernel
theorem dX5_readDesk_147 : decode cX5_readDesk 147 = .ok (.aload_n 0, 1) := by decide +kernel
theorem dX5_readDesk_148 : decode cX5_readDesk 148 = .ok (.getfield 87, 3) := by decide +kernel
theorem dX5_readDesk_151 : decode cX5_readDesk 151 = .ok (.ireturn, 1) := by decide +kernel
theorem dX5_readDesk_152 : decode cX5_readDesk 152 = .ok (.goto (-79), 3) := by decide +kernel
theorem dX5_readDesk_155 : decode cX5_readDesk 155 = .ok (.bipush (-9), 2) := by decide +kernel
theorem dX5_readDesk_157 : decode cX5_readDesk 157 = .ok (.ireturn, 1) := by decide +kernel
theorem dX5_fault_0 : decode cX5_fault 0 = .ok (.aload_n 0, 1) := by decide +kernel
theorem dX5_fault_1 : decode cX5_fault 1 = .ok (.iconst 0, 1) := by decide +kernel
theorem dX5_fault_2 : decode cX5_fault 2 = .ok (.putfield 51, 3) := by decide +kernel
theorem dX5_fault_5 : decode cX5_fault 5 = .ok (.aload_n 0, 1) := by decide +kernel
theorem dX5_fault_6 : decode cX5_fault 6 = .ok (.invokevirtual 113, 3) := by decide +kernel
theorem dX5_fault_9 : decode cX5_fault 9 = .ok (.ireturn, 1) := by decide +kernel
theorem dX5_desk_0 : decode cX5_desk 0 = .ok (.aload_n 0, 1) := by decide +kernel
theorem dX5_desk_1 : decode cX5_desk 1 = .ok (.iconst 0, 1) := by decide +kernel
theorem dX5_desk_2 : decode cX5_desk 2 = .ok (.putfield 51, 3) := by decide +kernel
theorem dX5_desk_5 : decode cX5_desk 5 = .ok (.aload_n 0, 1) := by decide +kernel
theorem dX5_desk_6 : decode cX5_desk 6 = .ok (.invokevirtual 113, 3) := by decide +kernel
theorem dX5_desk_9 : decode cX5_desk 9 = .ok (.bipush (-9), 2) := by decide +kernel
theorem dX5_desk_11 : decode cX5_desk 11 = .ok (.if_icmp .eq 6, 3) := by decide +kernel
theorem dX5_desk_14 : decode cX5_desk 14 = .ok (.bipush (-3), 2) := by decide +kernel
theorem dX5_desk_16 : decode cX5_desk 16 = .ok (.ireturn, 1) := by decide +kernel
theorem dX5_desk_17 : decode cX5_desk 17 = .ok (.aload_n 0, 1) := by decide +kernel
theorem dX5_desk_18 : decode cX5_desk 18 = .ok (.getfield 13, 3) := by decide +kernel
theorem dX5_desk_21 : decode cX5_desk 21 = .ok (.aload_n 0, 1) := by decide +kernel
theorem dX5_desk_22 : decode cX5_desk 22 = .ok (.getfield 19, 3) := by decide +kernel
theorem dX5_desk_25 : decode cX5_desk 25 = .ok (.invokestatic 116, 3) := by decide +kernel
theorem dX5_desk_28 : decode cX5_desk 28 = .ok (.iconst 0, 1) := by decide +kernel
theorem dX5_desk_29 : decode cX5_desk 29 = .ok (.istore_n 1, 1) := by decide +kernel
theorem dX5_desk_30 : decode cX5_desk 30 = .ok (.iload_n 1, 1) := by decide +kernel
theorem dX5_desk_31 : decode cX5_desk 31 = .ok (.aload_n 0, 1) := by decide +kernel
theorem dX5_desk_32 : decode cX5_desk 32 = .ok (.getfield 19, 3) := by decide +kernel
theorem dX5_desk_35 : decode cX5_desk 35 = .ok (.bipush 24, 2) := by decide +kernel
theorem dX5_desk_37 : decode cX5_desk 37 = .ok (.iaload, 1) := by decide +kernel
theorem dX5_desk_38 : decode cX5_desk 38 = .ok (.if_icmp .ge 31, 3) := by decide +kernel
theorem dX5_desk_41 : decode cX5_desk 41 = .ok (.aload_n 0, 1) := by decide +kernel
theorem dX5_desk_42 : decode cX5_desk 42 = .ok (.getfield 19, 3) := by decide +kernel
theorem dX5_desk_45 : decode cX5_desk 45 = .ok (.bipush 6, 2) := by decide +kernel
theorem dX5_desk_47 : decode cX5_desk 47 = .ok (.iload_n 1, 1) := by decide +kernel
theorem dX5_desk_48 : decode cX5_desk 48 = .ok (.imul, 1) := by decide +kernel
theorem dX5_desk_49 : decode cX5_desk 49 = .ok (.iconst 3, 1) := by decide +kernel
theorem dX5_desk_50 : decode cX5_desk 50 = .ok (.iadd, 1) := by decide +kernel
theorem dX5_desk_51 : decode cX5_desk 51 = .ok (.aload_n 0, 1) := by decide +kernel
theorem dX5_desk_52 : decode cX5_desk 52 = .ok (.getfield 19, 3) := by decide +kernel
theorem dX5_desk_55 : decode cX5_desk 55 = .ok (.bipush 6, 2) := by decide +kernel
theorem dX5_desk_57 : decode cX5_desk 57 = .ok (.iload_n 1, 1) := by decide +kernel
theorem dX5_desk_58 : decode cX5_desk 58 = .ok (.imul, 1) := by decide +kernel
theorem dX5_desk_59 : decode cX5_desk 59 = .ok (.iconst 2, 1) := by decide +kernel
theorem dX5_desk_60 : decode cX5_desk 60 = .ok (.iadd, 1) := by decide +kernel
theorem dX5_desk_61 : decode cX5_desk 61 = .ok (.iaload, 1) := by decide +kernel
theorem dX5_desk_62 : decode cX5_desk 62 = .ok (.iastore, 1) := by decide +kernel
theorem dX5_desk_63 : decode cX5_desk 63 = .ok (.iinc 1 1, 3) := by decide +kernel
theorem dX5_desk_66 : decode cX5_desk 66 = .ok (.goto (-36), 3) := by decide +kernel
theorem dX5_desk_69 : decode cX5_desk 69 = .ok (.iconst 0, 1) := by decide +kernel
theorem dX5_desk_70 : decode cX5_desk 70 = .ok (.istore_n 1, 1) := by decide +kernel
theorem dX5_desk_71 : decode cX5_desk 71 = .ok (.iload_n 1, 1) := by decide +kernel
theorem dX5_desk_72 : decode cX5_desk 72 = .ok (.aload_n 0, 1) := by decide +kernel
theorem dX5_desk_73 : decode cX5_desk 73 = .ok (.getfield 94, 3) := by decide +kernel
theorem dX5_desk_76 : decode cX5_desk 76 = .ok (.if_icmp .ge 59, 3) := by decide +kernel
theorem dX5_desk_79 : decode cX5_desk 79 = .ok (.aload_n 0, 1) := by decide +kernel
theorem dX5_desk_80 : decode cX5_desk 80 = .ok (.getfield 16, 3) := by decide +kernel
theorem dX5_desk_83 : decode cX5_desk 83 = .ok (.iload_n 1, 1) := by decide +kernel
theorem dX5_desk_84 : decode cX5_desk 84 = .ok (.iaload, 1) := by decide +kernel
theorem dX5_desk_85 : decode cX5_desk 85 = .ok (.bipush 10, 2) := by decide +kernel
theorem dX5_desk_87 : decode cX5_desk 87 = .ok (.idiv, 1) := by decide +kernel
theorem dX5_desk_88 : decode cX5_desk 88 = .ok (.istore_n 2, 1) := by decide +kernel
theorem dX5_desk_89 : decode cX5_desk 89 = .ok (.aload_n 0, 1) := by decide +kernel
theorem dX5_desk_90 : decode cX5_desk 90 = .ok (.getfield 16, 3) := by decide +kernel
theorem dX5_desk_93 : decode cX5_desk 93 = .ok (.iload_n 1, 1) := by decide +kernel
theorem dX5_desk_94 : decode cX5_desk 94 = .ok (.iaload, 1) := by decide +kernel
theorem dX5_desk_95 : decode cX5_desk 95 = .ok (.bipush 10, 2) := by decide +kernel
theorem dX5_desk_97 : decode cX5_desk 97 = .ok (.irem, 1) := by decide +kernel
theorem dX5_desk_98 : decode cX5_desk 98 = .ok (.iconst 1, 1) := by decide +kernel
theorem dX5_desk_99 : decode cX5_desk 99 = .ok (.if_icmp .ne 21, 3) := by decide +kernel
theorem dX5_desk_102 : decode cX5_desk 102 = .ok (.aload_n 0, 1) := by decide +kernel
theorem dX5_desk_103 : decode cX5_desk 103 = .ok (.getfield 19, 3) := by decide +kernel
theorem dX5_desk_106 : decode cX5_desk 106 = .ok (.bipush 6, 2) := by decide +kernel
theorem dX5_desk_108 : decode cX5_desk 108 = .ok (.iload_n 2, 1) := by decide +kernel
theorem dX5_desk_109 : decode cX5_desk 109 = .ok (.imul, 1) := by decide +kernel
theorem dX5_desk_110 : decode cX5_desk 110 = .ok (.iconst 3, 1) := by decide +kernel
theorem dX5_desk_111 : decode cX5_desk 111 = .ok (.iadd, 1) := by decide +kernel
theorem dX5_desk_112 : decode cX5_desk 112 = .ok (.dup2, 1) := by decide +kernel
theorem dX5_desk_113 : decode cX5_desk 113 = .ok (.iaload, 1) := by decide +kernel
theorem dX5_desk_114 : decode cX5_desk 114 = .ok (.iconst 1, 1) := by decide +kernel
theorem dX5_desk_115 : decode cX5_desk 115 = .ok (.isub, 1) := by decide +kernel
theorem dX5_desk_116 : decode cX5_desk 116 = .ok (.iastore, 1) := by decide +kernel
theorem dX5_desk_117 : decode cX5_desk 117 = .ok (.goto 12, 3) := by decide +kernel
theorem dX5_desk_120 : decode cX5_desk 120 = .ok (.aload_n 0, 1) := by decide +kernel
theorem dX5_desk_121 : decode cX5_desk 121 = .ok (.getfield 19, 3) := by decide +kernel
theorem dX5_desk_124 : decode cX5_desk 124 = .ok (.iload_n 2, 1) := by decide +kernel
theorem dX5_desk_125 : decode cX5_desk 125 = .ok (.invokestatic 120, 3) := by decide +kernel
theorem dX5_desk_128 : decode cX5_desk 128 = .ok (.pop, 1) := by decide +kernel
theorem dX5_desk_129 : decode cX5_desk 129 = .ok (.iinc 1 1, 3) := by decide +kernel
theorem dX5_desk_132 : decode cX5_desk 132 = .ok (.goto (-61), 3) := by decide +kernel
theorem dX5_desk_135 : decode cX5_desk 135 = .ok (.aload_n 0, 1) := by decide +kernel
theorem dX5_desk_136 : decode cX5_desk 136 = .ok (.iconst 0, 1) := by decide +kernel
theorem dX5_desk_137 : decode cX5_desk 137 = .ok (.putfield 124, 3) := by decide +kernel
theorem dX5_desk_140 : decode cX5_desk 140 = .ok (.aload_n 0, 1) := by decide +kernel
theorem dX5_desk_141 : decode cX5_desk 141 = .ok (.getfield 31, 3) := by decide +kernel
theorem dX5_desk_144 : decode cX5_desk 144 = .ok (.iconst 0, 1) := by decide +kernel
theorem dX5_desk_145 : decode cX5_desk 145 = .ok (.iconst 0, 1) := by decide +kernel
theorem dX5_desk_146 : decode cX5_desk 146 = .ok (.bastore, 1) := by decide +kernel
theorem dX5_desk_147 : decode cX5_desk 147 = .ok (.aload_n 0, 1) := by decide +kernel
theorem dX5_desk_148 : decode cX5_desk 148 = .ok (.getfield 31, 3) := by decide +kernel
theorem dX5_desk_151 : decode cX5_desk 151 = .ok (.iconst 1, 1) := by decide +kernel
theorem dX5_desk_152 : decode cX5_desk 152 = .ok (.iconst 0, 1) := by decide +kernel
theorem dX5_desk_153 : decode cX5_desk 153 = .ok (.bastore, 1) := by decide +kernel
theorem dX5_desk_154 : decode cX5_desk 154 = .ok (.aload_n 0, 1) := by decide +kernel
theorem dX5_desk_155 : decode cX5_desk 155 = .ok (.getfield 19, 3) := by decide +kernel
theorem dX5_desk_158 : decode cX5_desk 158 = .ok (.bipush 24, 2) := by decide +kernel
theorem dX5_desk_160 : decode cX5_desk 160 = .ok (.iaload, 1) := by decide +kernel
theorem dX5_desk_161 : decode cX5_desk 161 = .ok (.ireturn, 1) := by decide +kernel
theorem dX5_gap_0 : decode cX5_gap 0 = .ok (.aload_n 0, 1) := by decide +kernel
theorem dX5_gap_1 : decode cX5_gap 1 = .ok (.getfield 19, 3) := by decide +kernel
theorem dX5_gap_4 : decode cX5_gap 4 = .ok (.aload_n 0, 1) := by decide +kernel
theorem dX5_gap_5 : decode cX5_gap 5 = .ok (.getfield 22, 3) := by decide +kernel
theorem dX5_gap_8 : decode cX5_gap 8 = .ok (.invokestatic 116, 3) := by decide +kernel
theorem dX5_gap_11 : decode cX5_gap 11 = .ok (.bipush (-9), 2) := by decide +kernel
theorem dX5_gap_13 : decode cX5_gap 13 = .ok (.istore_n 2, 1) := by decide +kernel
theorem dX5_gap_14 : decode cX5_gap 14 = .ok (.iconst 0, 1) := by decide +kernel
theorem dX5_gap_15 : decode cX5_gap 15 = .ok (.istore_n 3, 1) := by decide +kernel
theorem dX5_gap_16 : decode cX5_gap 16 = .ok (.aload_n 0, 1) := by decide +kernel
theorem dX5_gap_17 : decode cX5_gap 17 = .ok (.getfield 22, 3) := by decide +kernel
theorem dX5_gap_20 : decode cX5_gap 20 = .ok (.bipush 6, 2) := by decide +kernel
theorem dX5_gap_22 : decode cX5_gap 22 = .ok (.iload_n 1, 1) := by decide +kernel
theorem dX5_gap_23 : decode cX5_gap 23 = .ok (.imul, 1) := by decide +kernel
theorem dX5_gap_24 : decode cX5_gap 24 = .ok (.iconst 3, 1) := by decide +kernel
theorem dX5_gap_25 : decode cX5_gap 25 = .ok (.iadd, 1) := by decide +kernel
theorem dX5_gap_26 : decode cX5_gap 26 = .ok (.iaload, 1) := by decide +kernel
theorem dX5_gap_27 : decode cX5_gap 27 = .ok (.ifCond .le 41, 3) := by decide +kernel
theorem dX5_gap_30 : decode cX5_gap 30 = .ok (.aload_n 0, 1) := by decide +kernel
theorem dX5_gap_31 : decode cX5_gap 31 = .ok (.getfield 22, 3) := by decide +kernel
theorem dX5_gap_34 : decode cX5_gap 34 = .ok (.iload_n 1, 1) := by decide +kernel
theorem dX5_gap_35 : decode cX5_gap 35 = .ok (.invokestatic 127, 3) := by decide +kernel
theorem dX5_gap_38 : decode cX5_gap 38 = .ok (.ifCond .eq 7, 3) := by decide +kernel
theorem dX5_gap_41 : decode cX5_gap 41 = .ok (.iload_n 3, 1) := by decide +kernel
theorem dX5_gap_42 : decode cX5_gap 42 = .ok (.goto 4, 3) := by decide +kernel
theorem dX5_gap_45 : decode cX5_gap 45 = .ok (.iload_n 2, 1) := by decide +kernel
theorem dX5_gap_46 : decode cX5_gap 46 = .ok (.istore_n 2, 1) := by decide +kernel
theorem dX5_gap_47 : decode cX5_gap 47 = .ok (.aload_n 0, 1) := by decide +kernel
theorem dX5_gap_48 : decode cX5_gap 48 = .ok (.getfield 22, 3) := by decide +kernel
theorem dX5_gap_51 : decode cX5_gap 51 = .ok (.bipush 6, 2) := by decide +kernel
theorem dX5_gap_53 : decode cX5_gap 53 = .ok (.iload_n 1, 1) := by decide +kernel
theorem dX5_gap_54 : decode cX5_gap 54 = .ok (.imul, 1) := by decide +kernel
theorem dX5_gap_55 : decode cX5_gap 55 = .ok (.iconst 3, 1) := by decide +kernel
theorem dX5_gap_56 : decode cX5_gap 56 = .ok (.iadd, 1) := by decide +kernel
theorem dX5_gap_57 : decode cX5_gap 57 = .ok (.dup2, 1) := by decide +kernel
theorem dX5_gap_58 : decode cX5_gap 58 = .ok (.iaload, 1) := by decide +kernel
theorem dX5_gap_59 : decode cX5_gap 59 = .ok (.iconst 1, 1) := by decide +kernel
theorem dX5_gap_60 : decode cX5_gap 60 = .ok (.isub, 1) := by decide +kernel
theorem dX5_gap_61 : decode cX5_gap 61 = .ok (.iastore, 1) := by decide +kernel
theorem dX5_gap_62 : decode cX5_gap 62 = .ok (.iinc 3 1, 3) := by decide +kernel
theorem dX5_gap_65 : decode cX5_gap 65 = .ok (.goto (-49), 3) := by decide +kernel
theorem dX5_gap_68 : decode cX5_gap 68 = .ok (.iload_n 2, 1) := by decide +kernel
theorem dX5_gap_69 : decode cX5_gap 69 = .ok (.ireturn, 1) := by decide +kernel
theorem dX5_layLoop_0 : decode cX5_layLoop 0 = .ok (.iconst 0, 1) := by decide +kernel
theorem dX5_layLoop_1 : decode cX5_layLoop 1 = .ok (.istore_n 2, 1) := by decide +kernel
theorem dX5_layLoop_2 : decode cX5_layLoop 2 = .ok (.iload_n 2, 1) := by decide +kernel
theorem dX5_layLoop_3 : decode cX5_layLoop 3 = .ok (.sipush 251, 3) := by decide +kernel
theorem dX5_layLoop_6 : decode cX5_layLoop 6 = .ok (.if_icmp .ge 17, 3) := by decide +kernel
theorem dX5_layLoop_9 : decode cX5_layLoop 9 = .ok (.aload_n 0, 1) := by decide +kernel
theorem dX5_layLoop_10 : decode cX5_layLoop 10 = .ok (.getfield 44, 3) := by decide +kernel
theorem dX5_layLoop_13 : decode cX5_layLoop 13 = .ok (.iload_n 2, 1) := by decide +kernel
theorem dX5_layLoop_14 : decode cX5_layLoop 14 = .ok (.bipush (-9), 2) := by decide +kernel
theorem dX5_layLoop_16 : decode cX5_layLoop 16 = .ok (.iastore, 1) := by decide +kernel
theorem dX5_layLoop_17 : decode cX5_layLoop 17 = .ok (.iinc 2 1, 3) := by decide +kernel
theorem dX5_layLoop_20 : decode cX5_layLoop 20 = .ok (.goto (-18), 3) := by decide +kernel
theorem dX5_layLoop_23 : decode cX5_layLoop 23 = .ok (.aload_n 0, 1) := by decide +kernel
theorem dX5_layLoop_24 : decode cX5_layLoop 24 = .ok (.getfield 19, 3) := by decide +kernel
theorem dX5_layLoop_27 : decode cX5_layLoop 27 = .ok (.bipush 6, 2) := by decide +kernel
theorem dX5_layLoop_29 : decode cX5_layLoop 29 = .ok (.iload_n 1, 1) := by decide +kernel
theorem dX5_layLoop_30 : decode cX5_layLoop 30 = .ok (.imul, 1) := by decide +kernel
theorem dX5_layLoop_31 : decode cX5_layLoop 31 = .ok (.iaload, 1) := by decide +kernel
theorem dX5_layLoop_32 : decode cX5_layLoop 32 = .ok (.istore_n 2, 1) := by decide +kernel
theorem dX5_layLoop_33 : decode cX5_layLoop 33 = .ok (.iconst 0, 1) := by decide +kernel
theorem dX5_layLoop_34 : decode cX5_layLoop 34 = .ok (.istore_n 3, 1) := by decide +kernel
theorem dX5_layLoop_35 : decode cX5_layLoop 35 = .ok (.aload_n 0, 1) := by decide +kernel
theorem dX5_layLoop_36 : decode cX5_layLoop 36 = .ok (.getfield 44, 3) := by decide +kernel
theorem dX5_layLoop_39 : decode cX5_layLoop 39 = .ok (.iload_n 2, 1) := by decide +kernel
theorem dX5_layLoop_40 : decode cX5_layLoop 40 = .ok (.iaload, 1) := by decide +kernel
theorem dX5_layLoop_41 : decode cX5_layLoop 41 = .ok (.bipush (-9), 2) := by decide +kernel
theorem dX5_layLoop_43 : decode cX5_layLoop 43 = .ok (.if_icmp .ne 33, 3) := by decide +kernel
theorem dX5_layLoop_46 : decode cX5_layLoop 46 = .ok (.aload_n 0, 1) := by decide +kernel
theorem dX5_layLoop_47 : decode cX5_layLoop 47 = .ok (.getfield 44, 3) := by decide +kernel
theorem dX5_layLoop_50 : decode cX5_layLoop 50 = .ok (.iload_n 2, 1) := by decide +kernel
theorem dX5_layLoop_51 : decode cX5_layLoop 51 = .ok (.iload_n 3, 1) := by decide +kernel
theorem dX5_layLoop_52 : decode cX5_layLoop 52 = .ok (.iastore, 1) := by decide +kernel
theorem dX5_layLoop_53 : decode cX5_layLoop 53 = .ok (.iload_n 2, 1) := by decide +kernel
theorem dX5_layLoop_54 : decode cX5_layLoop 54 = .ok (.aload_n 0, 1) := by decide +kernel
theorem dX5_layLoop_55 : decode cX5_layLoop 55 = .ok (.getfield 19, 3) := by decide +kernel
theorem dX5_layLoop_58 : decode cX5_layLoop 58 = .ok (.bipush 6, 2) := by decide +kernel
theorem dX5_layLoop_60 : decode cX5_layLoop 60 = .ok (.iload_n 1, 1) := by decide +kernel
theorem dX5_layLoop_61 : decode cX5_layLoop 61 = .ok (.imul, 1) := by decide +kernel
theorem dX5_layLoop_62 : decode cX5_layLoop 62 = .ok (.iconst 1, 1) := by decide +kernel
theorem dX5_layLoop_63 : decode cX5_layLoop 63 = .ok (.iadd, 1) := by decide +kernel
theorem dX5_layLoop_64 : decode cX5_layLoop 64 = .ok (.iaload, 1) := by decide +kernel
theorem dX5_layLoop_65 : decode cX5_layLoop 65 = .ok (.iconst 1, 1) := by decide +kernel
theorem dX5_layLoop_66 : decode cX5_layLoop 66 = .ok (.invokestatic 61, 3) := by decide +kernel
theorem dX5_layLoop_69 : decode cX5_layLoop 69 = .ok (.istore_n 2, 1) := by decide +kernel
theorem dX5_layLoop_70 : decode cX5_layLoop 70 = .ok (.iinc 3 1, 3) := by decide +kernel
theorem dX5_layLoop_73 : decode cX5_layLoop 73 = .ok (.goto (-38), 3) := by decide +kernel
theorem dX5_layLoop_76 : decode cX5_layLoop 76 = .ok (.sipush 1000, 3) := by decide +kernel
theorem dX5_layLoop_79 : decode cX5_layLoop 79 = .ok (.iload_n 3, 1) := by decide +kernel
theorem dX5_layLoop_80 : decode cX5_layLoop 80 = .ok (.aload_n 0, 1) := by decide +kernel
theorem dX5_layLoop_81 : decode cX5_layLoop 81 = .ok (.getfield 44, 3) := by decide +kernel
theorem dX5_layLoop_84 : decode cX5_layLoop 84 = .ok (.iload_n 2, 1) := by decide +kernel
theorem dX5_layLoop_85 : decode cX5_layLoop 85 = .ok (.iaload, 1) := by decide +kernel
theorem dX5_layLoop_86 : decode cX5_layLoop 86 = .ok (.isub, 1) := by decide +kernel
theorem dX5_layLoop_87 : decode cX5_layLoop 87 = .ok (.imul, 1) := by decide +kernel
theorem dX5_layLoop_88 : decode cX5_layLoop 88 = .ok (.aload_n 0, 1) := by decide +kernel
theorem dX5_layLoop_89 : decode cX5_layLoop 89 = .ok (.getfield 44, 3) := by decide +kernel
theorem dX5_layLoop_92 : decode cX5_layLoop 92 = .ok (.iload_n 2, 1) := by decide +kernel
theorem dX5_layLoop_93 : decode cX5_layLoop 93 = .ok (.iaload, 1) := by decide +kernel
theorem dX5_layLoop_94 : decode cX5_layLoop 94 = .ok (.iadd, 1) := by decide +kernel
theorem dX5_layLoop_95 : decode cX5_layLoop 95 = .ok (.ireturn, 1) := by decide +kernel
theorem dX5_user_0 : decode cX5_user 0 = .ok (.aload_n 0, 1) := by decide +kernel
theorem dX5_user_1 : decode cX5_user 1 = .ok (.iconst 0, 1) := by decide +kernel
theorem dX5_user_2 : decode cX5_user 2 = .ok (.putfield 51, 3) := by decide +kernel
theorem dX5_user_5 : decode cX5_user 5 = .ok (.aload_n 0, 1) := by decide +kernel
theorem dX5_user_6 : decode cX5_user 6 = .ok (.getfield 19, 3) := by decide +kernel
theorem dX5_user_9 : decode cX5_user 9 = .ok (.iload_n 1, 1) := by decide +kernel
theorem dX5_user_10 : decode cX5_user 10 = .ok (.invokestatic 75, 3) := by decide +kernel
theorem dX5_user_13 : decode cX5_user 13 = .ok (.ifCond .eq 5, 3) := by decide +kernel
theorem dX5_user_16 : decode cX5_user 16 = .ok (.iconst (-1), 1) := by decide +kernel
theorem dX5_user_17 : decode cX5_user 17 = .ok (.ireturn, 1) := by decide +kernel
theorem dX5_user_18 : decode cX5_user 18 = .ok (.iload_n 2, 1) := by decide +kernel
theorem dX5_user_19 : decode cX5_user 19 = .ok (.i2l, 1) := by decide +kernel
theorem dX5_user_20 : decode cX5_user 20 = .ok (.lconst 0, 1) := by decide +kernel
theorem dX5_user_21 : decode cX5_user 21 = .ok (.ldc2_w 130, 3) := by decide +kernel
theorem dX5_user_24 : decode cX5_user 24 = .ok (.invokestatic 57, 3) := by decide +kernel
theorem dX5_user_27 : decode cX5_user 27 = .ok (.ifCond .eq 15, 3) := by decide +kernel
theorem dX5_user_30 : decode cX5_user 30 = .ok (.aload_n 0, 1) := by decide +kernel
theorem dX5_user_31 : decode cX5_user 31 = .ok (.getfield 19, 3) := by decide +kernel
theorem dX5_user_34 : decode cX5_user 34 = .ok (.bipush 6, 2) := by decide +kernel
theorem dX5_user_36 : decode cX5_user 36 = .ok (.iload_n 1, 1) := by decide +kernel
theorem dX5_user_37 : decode cX5_user 37 = .ok (.imul, 1) := by decide +kernel
theorem dX5_user_38 : decode cX5_user 38 = .ok (.iload_n 2, 1) := by decide +kernel
theorem dX5_user_39 : decode cX5_user 39 = .ok (.iadd, 1) := by decide +kernel
theorem dX5_user_40 : decode cX5_user 40 = .ok (.iaload, 1) := by decide +kernel
theorem dX5_user_41 : decode cX5_user 41 = .ok (.ireturn, 1) := by decide +kernel
theorem dX5_user_42 : decode cX5_user 42 = .ok (.iload_n 2, 1) := by decide +kernel
theorem dX5_user_43 : decode cX5_user 43 = .ok (.tableswitch 97 6 10 #[33, 50, 71, 77, 87], 33) := by decide +kernel
theorem dX5_user_76 : decode cX5_user 76 = .ok (.aload_n 0, 1) := by decide +kernel
theorem dX5_user_77 : decode cX5_user 77 = .ok (.getfield 19, 3) := by decide +kernel
theorem dX5_user_80 : decode cX5_user 80 = .ok (.iload_n 1, 1) := by decide +kernel
theorem dX5_user_81 : decode cX5_user 81 = .ok (.invokestatic 127, 3) := by decide +kernel
theorem dX5_user_84 : decode cX5_user 84 = .ok (.ifCond .eq 7, 3) := by decide +kernel
theorem dX5_user_87 : decode cX5_user 87 = .ok (.iconst 1, 1) := by decide +kernel
theorem dX5_user_88 : decode cX5_user 88 = .ok (.goto 4, 3) := by decide +kernel
theorem dX5_user_91 : decode cX5_user 91 = .ok (.iconst 0, 1) := by decide +kernel
theorem dX5_user_92 : decode cX5_user 92 = .ok (.ireturn, 1) := by decide +kernel
theorem dX5_user_93 : decode cX5_user 93 = .ok (.aload_n 0, 1) := by decide +kernel
theorem dX5_user_94 : decode cX5_user 94 = .ok (.getfield 19, 3) := by decide +kernel
theorem dX5_user_97 : decode cX5_user 97 = .ok (.bipush 6, 2) := by decide +kernel
theorem dX5_user_99 : decode cX5_user 99 = .ok (.iload_n 1, 1) := by decide +kernel
theorem dX5_user_100 : decode cX5_user 100 = .ok (.imul, 1) := by decide +kernel
theorem dX5_user_101 : decode cX5_user 101 = .ok (.iconst 5, 1) := by decide +kernel
theorem dX5_user_102 : decode cX5_user 102 = .ok (.iadd, 1) := by decide +kernel
theorem dX5_user_103 : decode cX5_user 103 = .ok (.iaload, 1) := by decide +kernel
theorem dX5_user_104 : decode cX5_user 104 = .ok (.iconst 4, 1) := by decide +kernel
theorem dX5_user_105 : decode cX5_user 105 = .ok (.if_icmp .ge 7, 3) := by decide +kernel
theorem dX5_user_108 : decode cX5_user 108 = .ok (.iconst 1, 1) := by decide +kernel
theorem dX5_user_109 : decode cX5_user 109 = .ok (.goto 4, 3) := by decide +kernel
theorem dX5_user_112 : decode cX5_user 112 = .ok (.iconst 0, 1) := by decide +kernel
theorem dX5_user_113 : decode cX5_user 113 = .ok (.ireturn, 1) := by decide +kernel
theorem dX5_user_114 : decode cX5_user 114 = .ok (.aload_n 0, 1) := by decide +kernel
theorem dX5_user_115 : decode cX5_user 115 = .ok (.iload_n 1, 1) := by decide +kernel
theorem dX5_user_116 : decode cX5_user 116 = .ok (.invokevirtual 132, 3) := by decide +kernel
theorem dX5_user_119 : decode cX5_user 119 = .ok (.ireturn, 1) := by decide +kernel
theorem dX5_user_120 : decode cX5_user 120 = .ok (.aload_n 0, 1) := by decide +kernel
theorem dX5_user_121 : decode cX5_user 121 = .ok (.iload_n 1, 1) := by decide +kernel
theorem dX5_user_122 : decode cX5_user 122 = .ok (.invokevirtual 136, 3) := by decide +kernel
theorem dX5_user_125 : decode cX5_user 125 = .ok (.sipush 1000, 3) := by decide +kernel
theorem dX5_user_128 : decode cX5_user 128 = .ok (.irem, 1) := by decide +kernel
theorem dX5_user_129 : decode cX5_user 129 = .ok (.ireturn, 1) := by decide +kernel
theorem dX5_user_130 : decode cX5_user 130 = .ok (.aload_n 0, 1) := by decide +kernel
theorem dX5_user_131 : decode cX5_user 131 = .ok (.iload_n 1, 1) := by decide +kernel
theorem dX5_user_132 : decode cX5_user 132 = .ok (.invokevirtual 136, 3) := by decide +kernel
theorem dX5_user_135 : decode cX5_user 135 = .ok (.sipush 1000, 3) := by decide +kernel
theorem dX5_user_138 : decode cX5_user 138 = .ok (.idiv, 1) := by decide +kernel
theorem dX5_user_139 : decode cX5_user 139 = .ok (.ireturn, 1) := by decide +kernel
theorem dX5_user_140 : decode cX5_user 140 = .ok (.bipush (-2), 2) := by decide +kernel
theorem dX5_user_142 : decode cX5_user 142 = .ok (.ireturn, 1) := by decide +kernel
theorem dX5_pass_0 : decode cX5_pass 0 = .ok (.aload_n 0, 1) := by decide +kernel
theorem dX5_pass_1 : decode cX5_pass 1 = .ok (.iconst 0, 1) := by decide +kernel
theorem dX5_pass_2 : decode cX5_pass 2 = .ok (.putfield 51, 3) := by decide +kernel
theorem dX5_pass_5 : decode cX5_pass 5 = .ok (.aload_n 0, 1) := by decide +kernel
theorem dX5_pass_6 : decode cX5_pass 6 = .ok (.getfield 19, 3) := by decide +kernel
theorem dX5_pass_9 : decode cX5_pass 9 = .ok (.iload_n 1, 1) := by decide +kernel
theorem dX5_pass_10 : decode cX5_pass 10 = .ok (.invokestatic 75, 3) := by decide +kernel
theorem dX5_pass_13 : decode cX5_pass 13 = .ok (.ifCond .eq 5, 3) := by decide +kernel
theorem dX5_pass_16 : decode cX5_pass 16 = .ok (.iconst (-1), 1) := by decide +kernel
theorem dX5_pass_17 : decode cX5_pass 17 = .ok (.ireturn, 1) := by decide +kernel
theorem dX5_pass_18 : decode cX5_pass 18 = .ok (.iload_n 2, 1) := by decide +kernel
theorem dX5_pass_19 : decode cX5_pass 19 = .ok (.i2l, 1) := by decide +kernel
theorem dX5_pass_20 : decode cX5_pass 20 = .ok (.lconst 0, 1) := by decide +kernel
theorem dX5_pass_21 : decode cX5_pass 21 = .ok (.aload_n 0, 1) := by decide +kernel
theorem dX5_pass_22 : decode cX5_pass 22 = .ok (.getfield 19, 3) := by decide +kernel
theorem dX5_pass_25 : decode cX5_pass 25 = .ok (.bipush 6, 2) := by decide +kernel
theorem dX5_pass_27 : decode cX5_pass 27 = .ok (.iload_n 1, 1) := by decide +kernel
theorem dX5_pass_28 : decode cX5_pass 28 = .ok (.imul, 1) := by decide +kernel
theorem dX5_pass_29 : decode cX5_pass 29 = .ok (.iconst 2, 1) := by decide +kernel
theorem dX5_pass_30 : decode cX5_pass 30 = .ok (.iadd, 1) := by decide +kernel
theorem dX5_pass_31 : decode cX5_pass 31 = .ok (.iaload, 1) := by decide +kernel
theorem dX5_pass_32 : decode cX5_pass 32 = .ok (.iconst 1, 1) := by decide +kernel
theorem dX5_pass_33 : decode cX5_pass 33 = .ok (.isub, 1) := by decide +kernel
theorem dX5_pass_34 : decode cX5_pass 34 = .ok (.i2l, 1) := by decide +kernel
theorem dX5_pass_35 : decode cX5_pass 35 = .ok (.invokestatic 57, 3) := by decide +kernel
theorem dX5_pass_38 : decode cX5_pass 38 = .ok (.ifCond .eq 15, 3) := by decide +kernel
theorem dX5_pass_41 : decode cX5_pass 41 = .ok (.aload_n 0, 1) := by decide +kernel
theorem dX5_pass_42 : decode cX5_pass 42 = .ok (.getfield 19, 3) := by decide +kernel
theorem dX5_pass_45 : decode cX5_pass 45 = .ok (.iload_n 1, 1) := by decide +kernel
theorem dX5_pass_46 : decode cX5_pass 46 = .ok (.iload_n 2, 1) := by decide +kernel
theorem dX5_pass_47 : decode cX5_pass 47 = .ok (.invokestatic 69, 3) := by decide +kernel
theorem dX5_pass_50 : decode cX5_pass 50 = .ok (.goto 5, 3) := by decide +kernel
theorem dX5_pass_53 : decode cX5_pass 53 = .ok (.bipush (-9), 2) := by decide +kernel
theorem dX5_pass_55 : decode cX5_pass 55 = .ok (.ireturn, 1) := by decide +kernel
theorem dX5_behind_0 : decode cX5_behind 0 = .ok (.aload_n 0, 1) := by decide +kernel
theorem dX5_behind_1 : decode cX5_behind 1 = .ok (.iconst 0, 1) := by decide +kernel
theorem dX5_behind_2 : decode cX5_behind 2 = .ok (.putfield 51, 3) := by decide +kernel
theorem dX5_behind_5 : decode cX5_behind 5 = .ok (.iload_n 1, 1) := by decide +kernel
theorem dX5_behind_6 : decode cX5_behind 6 = .ok (.invokestatic 139, 3) := by decide +kernel
theorem dX5_behind_9 : decode cX5_behind 9 = .ok (.ifCond .eq 31, 3) := by decide +kernel
theorem dX5_behind_12 : decode cX5_behind 12 = .ok (.iload_n 2, 1) := by decide +kernel
theorem dX5_behind_13 : decode cX5_behind 13 = .ok (.invokestatic 139, 3) := by decide +kernel
theorem dX5_behind_16 : decode cX5_behind 16 = .ok (.ifCond .eq 24, 3) := by decide +kernel
theorem dX5_behind_19 : decode cX5_behind 19 = .ok (.iload_n 3, 1) := by decide +kernel
theorem dX5_behind_20 : decode cX5_behind 20 = .ok (.i2l, 1) := by decide +kernel
theorem dX5_behind_21 : decode cX5_behind 21 = .ok (.lconst 0, 1) := by decide +kernel
theorem dX5_behind_22 : decode cX5_behind 22 = .ok (.ldc2_w 143, 3) := by decide +kernel
theorem dX5_behind_25 : decode cX5_behind 25 = .ok (.invokestatic 57, 3) := by decide +kernel
theorem dX5_behind_28 : decode cX5_behind 28 = .ok (.ifCond .eq 12, 3) := by decide +kernel
theorem dX5_behind_31 : decode cX5_behind 31 = .ok (.iload_n 1, 1) := by decide +kernel
theorem dX5_behind_32 : decode cX5_behind 32 = .ok (.iload_n 2, 1) := by decide +kernel
theorem dX5_behind_33 : decode cX5_behind 33 = .ok (.iload_n 3, 1) := by decide +kernel
theorem dX5_behind_34 : decode cX5_behind 34 = .ok (.invokestatic 61, 3) := by decide +kernel
theorem dX5_behind_37 : decode cX5_behind 37 = .ok (.goto 5, 3) := by decide +kernel
theorem dX5_behind_40 : decode cX5_behind 40 = .ok (.bipush (-2), 2) := by decide +kernel
theorem dX5_behind_42 : decode cX5_behind 42 = .ok (.ireturn, 1) := by decide +kernel
theorem dX5_note_0 : decode cX5_note 0 = .ok (.aload_n 0, 1) := by decide +kernel
theorem dX5_note_1 : decode cX5_note 1 = .ok (.getfield 124, 3) := by decide +kernel
theorem dX5_note_4 : decode cX5_note 4 = .ok (.bipush 14, 2) := by decide +kernel
theorem dX5_note_6 : decode cX5_note 6 = .ok (.if_icmp .ne 43, 3) := by decide +kernel
theorem dX5_note_9 : decode cX5_note 9 = .ok (.iconst 0, 1) := by decide +kernel
theorem dX5_note_10 : decode cX5_note 10 = .ok (.istore_n 1, 1) := by decide +kernel
theorem dX5_note_11 : decode cX5_note 11 = .ok (.iload_n 1, 1) := by decide +kernel
theorem dX5_note_12 : decode cX5_note 12 = .ok (.sipush 468, 3) := by decide +kernel
theorem dX5_note_15 : decode cX5_note 15 = .ok (.if_icmp .ge 24, 3) := by decide +kernel
theorem dX5_note_18 : decode cX5_note 18 = .ok (.aload_n 0, 1) := by decide +kernel
theorem dX5_note_19 : decode cX5_note 19 = .ok (.getfield 25, 3) := by decide +kernel
theorem dX5_note_22 : decode cX5_note 22 = .ok (.iload_n 1, 1) := by decide +kernel
theorem dX5_note_23 : decode cX5_note 23 = .ok (.aload_n 0, 1) := by decide +kernel
theorem dX5_note_24 : decode cX5_note 24 = .ok (.getfield 25, 3) := by decide +kernel
theorem dX5_note_27 : decode cX5_note 27 = .ok (.iload_n 1, 1) := by decide +kernel
theorem dX5_note_28 : decode cX5_note 28 = .ok (.bipush 36, 2) := by decide +kernel
theorem dX5_note_30 : decode cX5_note 30 = .ok (.iadd, 1) := by decide +kernel
theorem dX5_note_31 : decode cX5_note 31 = .ok (.iaload, 1) := by decide +kernel
theorem dX5_note_32 : decode cX5_note 32 = .ok (.iastore, 1) := by decide +kernel
theorem dX5_note_33 : decode cX5_note 33 = .ok (.iinc 1 1, 3) := by decide +kernel
theorem dX5_note_36 : decode cX5_note 36 = .ok (.goto (-25), 3) := by decide +kernel
theorem dX5_note_39 : decode cX5_note 39 = .ok (.aload_n 0, 1) := by decide +kernel
theorem dX5_note_40 : decode cX5_note 40 = .ok (.dup, 1) := by decide +kernel
theorem dX5_note_41 : decode cX5_note 41 = .ok (.getfield 124, 3) := by decide +kernel
theorem dX5_note_44 : decode cX5_note 44 = .ok (.iconst 1, 1) := by decide +kernel
theorem dX5_note_45 : decode cX5_note 45 = .ok (.isub, 1) := by decide +kernel
theorem dX5_note_46 : decode cX5_note 46 = .ok (.putfield 124, 3) := by decide +kernel
theorem dX5_note_49 : decode cX5_note 49 = .ok (.iconst 0, 1) := by decide +kernel
theorem dX5_note_50 : decode cX5_note 50 = .ok (.istore_n 1, 1) := by decide +kernel
theorem dX5_note_51 : decode cX5_note 51 = .ok (.iload_n 1, 1) := by decide +kernel
theorem dX5_note_52 : decode cX5_note 52 = .ok (.bipush 36, 2) := by decide +kernel
theorem dX5_note_54 : decode cX5_note 54 = .ok (.if_icmp .ge 29, 3) := by decide +kernel
theorem dX5_note_57 : decode cX5_note 57 = .ok (.aload_n 0, 1) := by decide +kernel
theorem dX5_note_58 : decode cX5_note 58 = .ok (.getfield 25, 3) := by decide +kernel
theorem dX5_note_61 : decode cX5_note 61 = .ok (.bipush 36, 2) := by decide +kernel
theorem dX5_note_63 : decode cX5_note 63 = .ok (.aload_n 0, 1) := by decide +kernel
theorem dX5_note_64 : decode cX5_note 64 = .ok (.getfield 124, 3) := by decide +kernel
theorem dX5_note_67 : decode cX5_note 67 = .ok (.imul, 1) := by decide +kernel
theorem dX5_note_68 : decode cX5_note 68 = .ok (.iload_n 1, 1) := by decide +kernel
theorem dX5_note_69 : decode cX5_note 69 = .ok (.iadd, 1) := by decide +kernel
theorem dX5_note_70 : decode cX5_note 70 = .ok (.aload_n 0, 1) := by decide +kernel
theorem dX5_note_71 : decode cX5_note 71 = .ok (.getfield 19, 3) := by decide +kernel
theorem dX5_note_74 : decode cX5_note 74 = .ok (.iload_n 1, 1) := by decide +kernel
theorem dX5_note_75 : decode cX5_note 75 = .ok (.iaload, 1) := by decide +kernel
theorem dX5_note_76 : decode cX5_note 76 = .ok (.iastore, 1) := by decide +kernel
theorem dX5_note_77 : decode cX5_note 77 = .ok (.iinc 1 1, 3) := by decide +kernel
theorem dX5_note_80 : decode cX5_note 80 = .ok (.goto (-29), 3) := by decide +kernel
theorem dX5_note_83 : decode cX5_note 83 = .ok (.aload_n 0, 1) := by decide +kernel
theorem dX5_note_84 : decode cX5_note 84 = .ok (.dup, 1) := by decide +kernel
theorem dX5_note_85 : decode cX5_note 85 = .ok (.getfield 124, 3) := by decide +kernel
theorem dX5_note_88 : decode cX5_note 88 = .ok (.iconst 1, 1) := by decide +kernel
theorem dX5_note_89 : decode cX5_note 89 = .ok (.iadd, 1) := by decide +kernel
theorem dX5_note_90 : decode cX5_note 90 = .ok (.putfield 124, 3) := by decide +kernel
theorem dX5_note_93 : decode cX5_note 93 = .ok (.return_, 1) := by decide +kernel
theorem dX5_send_0 : decode cX5_send 0 = .ok (.aload_n 0, 1) := by decide +kernel
theorem dX5_send_1 : decode cX5_send 1 = .ok (.iconst 0, 1) := by decide +kernel
theorem dX5_send_2 : decode cX5_send 2 = .ok (.putfield 51, 3) := by decide +kernel
theorem dX5_send_5 : decode cX5_send 5 = .ok (.aload_n 0, 1) := by decide +kernel
theorem dX5_send_6 : decode cX5_send 6 = .ok (.getfield 19, 3) := by decide +kernel
theorem dX5_send_9 : decode cX5_send 9 = .ok (.iload_n 1, 1) := by decide +kernel
theorem dX5_send_10 : decode cX5_send 10 = .ok (.invokestatic 75, 3) := by decide +kernel
theorem dX5_send_13 : decode cX5_send 13 = .ok (.ifCond .eq 5, 3) := by decide +kernel
theorem dX5_send_16 : decode cX5_send 16 = .ok (.iconst (-1), 1) := by decide +kernel
theorem dX5_send_17 : decode cX5_send 17 = .ok (.ireturn, 1) := by decide +kernel
theorem dX5_send_18 : decode cX5_send 18 = .ok (.aload_n 0, 1) := by decide +kernel
theorem dX5_send_19 : decode cX5_send 19 = .ok (.getfield 19, 3) := by decide +kernel
theorem dX5_send_22 : decode cX5_send 22 = .ok (.iload_n 1, 1) := by decide +kernel
theorem dX5_send_23 : decode cX5_send 23 = .ok (.invokestatic 79, 3) := by decide +kernel
theorem dX5_send_26 : decode cX5_send 26 = .ok (.ifCond .ne 6, 3) := by decide +kernel
theorem dX5_send_29 : decode cX5_send 29 = .ok (.bipush (-3), 2) := by decide +kernel
theorem dX5_send_31 : decode cX5_send 31 = .ok (.ireturn, 1) := by decide +kernel
theorem dX5_send_32 : decode cX5_send 32 = .ok (.aload_n 0, 1) := by decide +kernel
theorem dX5_send_33 : decode cX5_send 33 = .ok (.invokevirtual 145, 3) := by decide +kernel
theorem dX5_send_36 : decode cX5_send 36 = .ok (.aload_n 0, 1) := by decide +kernel
theorem dX5_send_37 : decode cX5_send 37 = .ok (.getfield 19, 3) := by decide +kernel
theorem dX5_send_40 : decode cX5_send 40 = .ok (.iload_n 1, 1) := by decide +kernel
theorem dX5_send_41 : decode cX5_send 41 = .ok (.invokestatic 120, 3) := by decide +kernel
theorem dX5_send_44 : decode cX5_send 44 = .ok (.ireturn, 1) := by decide +kernel
theorem dX5_miss_0 : decode cX5_miss 0 = .ok (.aload_n 0, 1) := by decide +kernel
theorem dX5_miss_1 : decode cX5_miss 1 = .ok (.iconst 0, 1) := by decide +kernel
theorem dX5_miss_2 : decode cX5_miss 2 = .ok (.putfield 51, 3) := by decide +kernel
theorem dX5_miss_5 : decode cX5_miss 5 = .ok (.aload_n 0, 1) := by decide +kernel
theorem dX5_miss_6 : decode cX5_miss 6 = .ok (.getfield 19, 3) := by decide +kernel
theorem dX5_miss_9 : decode cX5_miss 9 = .ok (.iload_n 1, 1) := by decide +kernel
theorem dX5_miss_10 : decode cX5_miss 10 = .ok (.invokestatic 75, 3) := by decide +kernel
theorem dX5_miss_13 : decode cX5_miss 13 = .ok (.ifCond .eq 5, 3) := by decide +kernel
theorem dX5_miss_16 : decode cX5_miss 16 = .ok (.iconst (-1), 1) := by decide +kernel
theorem dX5_miss_17 : decode cX5_miss 17 = .ok (.ireturn, 1) := by decide +kernel
theorem dX5_miss_18 : decode cX5_miss 18 = .ok (.aload_n 0, 1) := by decide +kernel
theorem dX5_miss_19 : decode cX5_miss 19 = .ok (.getfield 19, 3) := by decide +kernel
theorem dX5_miss_22 : decode cX5_miss 22 = .ok (.iload_n 1, 1) := by decide +kernel
theorem dX5_miss_23 : decode cX5_miss 23 = .ok (.invokestatic 79, 3) := by decide +kernel
theorem dX5_miss_26 : decode cX5_miss 26 = .ok (.ifCond .ne 6, 3) := by decide +kernel
theorem dX5_miss_29 : decode cX5_miss 29 = .ok (.bipush (-3), 2) := by decide +kernel
theorem dX5_miss_31 : decode cX5_miss 31 = .ok (.ireturn, 1) := by decide +kernel
theorem dX5_miss_32 : decode cX5_miss 32 = .ok (.aload_n 0, 1) := by decide +kernel
theorem dX5_miss_33 : decode cX5_miss 33 = .ok (.invokevirtual 145, 3) := by decide +kernel
theorem dX5_miss_36 : decode cX5_miss 36 = .ok (.aload_n 0, 1) := by decide +kernel
theorem dX5_miss_37 : decode cX5_miss 37 = .ok (.getfield 19, 3) := by decide +kernel
theorem dX5_miss_40 : decode cX5_miss 40 = .ok (.bipush 6, 2) := by decide +kernel
theorem dX5_miss_42 : decode cX5_miss 42 = .ok (.iload_n 1, 1) := by decide +kernel
theorem dX5_miss_43 : decode cX5_miss 43 = .ok (.imul, 1) := by decide +kernel
theorem dX5_miss_44 : decode cX5_miss 44 = .ok (.iconst 3, 1) := by decide +kernel
theorem dX5_miss_45 : decode cX5_miss 45 = .ok (.iadd, 1) := by decide +kernel
theorem dX5_miss_46 : decode cX5_miss 46 = .ok (.dup2, 1) := by decide +kernel
theorem dX5_miss_47 : decode cX5_miss 47 = .ok (.iaload, 1) := by decide +kernel
theorem dX5_miss_48 : decode cX5_miss 48 = .ok (.iconst 1, 1) := by decide +kernel
theorem dX5_miss_49 : decode cX5_miss 49 = .ok (.isub, 1) := by decide +kernel
theorem dX5_miss_50 : decode cX5_miss 50 = .ok (.iastore, 1) := by decide +kernel
theorem dX5_miss_51 : decode cX5_miss 51 = .ok (.aload_n 0, 1) := by decide +kernel
theorem dX5_miss_52 : decode cX5_miss 52 = .ok (.getfield 19, 3) := by decide +kernel
theorem dX5_miss_55 : decode cX5_miss 55 = .ok (.bipush 6, 2) := by decide +kernel
theorem dX5_miss_57 : decode cX5_miss 57 = .ok (.iload_n 1, 1) := by decide +kernel
theorem dX5_miss_58 : decode cX5_miss 58 = .ok (.imul, 1) := by decide +kernel
theorem dX5_miss_59 : decode cX5_miss 59 = .ok (.iconst 3, 1) := by decide +kernel
theorem dX5_miss_60 : decode cX5_miss 60 = .ok (.iadd, 1) := by decide +kernel
theorem dX5_miss_61 : decode cX5_miss 61 = .ok (.iaload, 1) := by decide +kernel
theorem dX5_miss_62 : decode cX5_miss 62 = .ok (.ireturn, 1) := by decide +kernel
theorem dX5_attempt_0 : decode cX5_attempt 0 = .ok (.aload_n 0, 1) := by decide +kernel
theorem dX5_attempt_1 : decode cX5_attempt 1 = .ok (.iconst 0, 1) := by decide +kernel
theorem dX5_attempt_2 : decode cX5_attempt 2 = .ok (.putfield 51, 3) := by decide +kernel
theorem dX5_attempt_5 : decode cX5_attempt 5 = .ok (.aload_n 0, 1) := by decide +kernel
theorem dX5_attempt_6 : decode cX5_attempt 6 = .ok (.getfield 19, 3) := by decide +kernel
theorem dX5_attempt_9 : decode cX5_attempt 9 = .ok (.iload_n 1, 1) := by decide +kernel
theorem dX5_attempt_10 : decode cX5_attempt 10 = .ok (.invokestatic 75, 3) := by decide +kernel
theorem dX5_attempt_13 : decode cX5_attempt 13 = .ok (.ifCond .eq 5, 3) := by decide +kernel
theorem dX5_attempt_16 : decode cX5_attempt 16 = .ok (.iconst (-1), 1) := by decide +kernel
theorem dX5_attempt_17 : decode cX5_attempt 17 = .ok (.ireturn, 1) := by decide +kernel
theorem dX5_attempt_18 : decode cX5_attempt 18 = .ok (.iload_n 2, 1) := by decide +kernel
theorem dX5_attempt_19 : decode cX5_attempt 19 = .ok (.invokestatic 139, 3) := by decide +kernel
theorem dX5_attempt_22 : decode cX5_attempt 22 = .ok (.ifCond .ne 6, 3) := by decide +kernel
theorem dX5_attempt_25 : decode cX5_attempt 25 = .ok (.bipush (-2), 2) := by decide +kernel
theorem dX5_attempt_27 : decode cX5_attempt 27 = .ok (.ireturn, 1) := by decide +kernel
theorem dX5_attempt_28 : decode cX5_attempt 28 = .ok (.aload_n 0, 1) := by decide +kernel
theorem dX5_attempt_29 : decode cX5_attempt 29 = .ok (.invokevirtual 145, 3) := by decide +kernel
theorem dX5_attempt_32 : decode cX5_attempt 32 = .ok (.aload_n 0, 1) := by decide +kernel
theorem dX5_attempt_33 : decode cX5_attempt 33 = .ok (.getfield 19, 3) := by decide +kernel
theorem dX5_attempt_36 : decode cX5_attempt 36 = .ok (.iload_n 1, 1) := by decide +kernel
theorem dX5_attempt_37 : decode cX5_attempt 37 = .ok (.iload_n 2, 1) := by decide +kernel
theorem dX5_attempt_38 : decode cX5_attempt 38 = .ok (.invokestatic 72, 3) := by decide +kernel
theorem dX5_attempt_41 : decode cX5_attempt 41 = .ok (.ireturn, 1) := by decide +kernel
theorem dX5_hear_0 : decode cX5_hear 0 = .ok (.aload_n 0, 1) := by decide +kernel
theorem dX5_hear_1 : decode cX5_hear 1 = .ok (.iconst 0, 1) := by decide +kernel
theorem dX5_hear_2 : decode cX5_hear 2 = .ok (.putfield 51, 3) := by decide +kernel
theorem dX5_hear_5 : decode cX5_hear 5 = .ok (.aload_n 0, 1) := by decide +kernel
theorem dX5_hear_6 : decode cX5_hear 6 = .ok (.getfield 19, 3) := by decide +kernel
theorem dX5_hear_9 : decode cX5_hear 9 = .ok (.bipush 26, 2) := by decide +kernel
theorem dX5_hear_11 : decode cX5_hear 11 = .ok (.iaload, 1) := by decide +kernel
theorem dX5_hear_12 : decode cX5_hear 12 = .ok (.bipush (-9), 2) := by decide +kernel
theorem dX5_hear_14 : decode cX5_hear 14 = .ok (.if_icmp .ne 6, 3) := by decide +kernel
theorem dX5_hear_17 : decode cX5_hear 17 = .ok (.bipush (-3), 2) := by decide +kernel
theorem dX5_hear_19 : decode cX5_hear 19 = .ok (.ireturn, 1) := by decide +kernel
theorem dX5_hear_20 : decode cX5_hear 20 = .ok (.aload_n 0, 1) := by decide +kernel
theorem dX5_hear_21 : decode cX5_hear 21 = .ok (.getfield 19, 3) := by decide +kernel
theorem dX5_hear_24 : decode cX5_hear 24 = .ok (.bipush 27, 2) := by decide +kernel
theorem dX5_hear_26 : decode cX5_hear 26 = .ok (.iaload, 1) := by decide +kernel
theorem dX5_hear_27 : decode cX5_hear 27 = .ok (.bipush 8, 2) := by decide +kernel
theorem dX5_hear_29 : decode cX5_hear 29 = .ok (.if_icmp .ne 6, 3) := by decide +kernel
theorem dX5_hear_32 : decode cX5_hear 32 = .ok (.bipush (-4), 2) := by decide +kernel
theorem dX5_hear_34 : decode cX5_hear 34 = .ok (.ireturn, 1) := by decide +kernel
theorem dX5_hear_35 : decode cX5_hear 35 = .ok (.aload_n 0, 1) := by decide +kernel
theorem dX5_hear_36 : decode cX5_hear 36 = .ok (.invokevirtual 145, 3) := by decide +kernel
theorem dX5_hear_39 : decode cX5_hear 39 = .ok (.aload_n 0, 1) := by decide +kernel
theorem dX5_hear_40 : decode cX5_hear 40 = .ok (.getfield 19, 3) := by decide +kernel
theorem dX5_hear_43 : decode cX5_hear 43 = .ok (.bipush 28, 2) := by decide +kernel
theorem dX5_hear_45 : decode cX5_hear 45 = .ok (.aload_n 0, 1) := by decide +kernel
theorem dX5_hear_46 : decode cX5_hear 46 = .ok (.getfield 19, 3) := by decide +kernel
theorem dX5_hear_49 : decode cX5_hear 49 = .ok (.bipush 27, 2) := by decide +kernel
theorem dX5_hear_51 : decode cX5_hear 51 = .ok (.iaload, 1) := by decide +kernel
theorem dX5_hear_52 : decode cX5_hear 52 = .ok (.iadd, 1) := by decide +kernel
theorem dX5_hear_53 : decode cX5_hear 53 = .ok (.aload_n 0, 1) := by decide +kernel
theorem dX5_hear_54 : decode cX5_hear 54 = .ok (.getfield 19, 3) := by decide +kernel
theorem dX5_hear_57 : decode cX5_hear 57 = .ok (.bipush 26, 2) := by decide +kernel
theorem dX5_hear_59 : decode cX5_hear 59 = .ok (.iaload, 1) := by decide +kernel
theorem dX5_hear_60 : decode cX5_hear 60 = .ok (.iastore, 1) := by decide +kernel
theorem dX5_hear_61 : decode cX5_hear 61 = .ok (.aload_n 0, 1) := by decide +kernel
theorem dX5_hear_62 : decode cX5_hear 62 = .ok (.getfield 19, 3) := by decide +kernel
theorem dX5_hear_65 : decode cX5_hear 65 = .ok (.bipush 27, 2) := by decide +kernel
theorem dX5_hear_67 : decode cX5_hear 67 = .ok (.dup2, 1) := by decide +kernel
theorem dX5_hear_68 : decode cX5_hear 68 = .ok (.iaload, 1) := by decide +kernel
theorem dX5_hear_69 : decode cX5_hear 69 = .ok (.iconst 1, 1) := by decide +kernel
theorem dX5_hear_70 : decode cX5_hear 70 = .ok (.iadd, 1) := by decide +kernel
theorem dX5_hear_71 : decode cX5_hear 71 = .ok (.iastore, 1) := by decide +kernel
theorem dX5_hear_72 : decode cX5_hear 72 = .ok (.aload_n 0, 1) := by decide +kernel
theorem dX5_hear_73 : decode cX5_hear 73 = .ok (.getfield 19, 3) := by decide +kernel
theorem dX5_hear_76 : decode cX5_hear 76 = .ok (.bipush 26, 2) := by decide +kernel
theorem dX5_hear_78 : decode cX5_hear 78 = .ok (.iaload, 1) := by decide +kernel
theorem dX5_hear_79 : decode cX5_hear 79 = .ok (.sipush 1000, 3) := by decide +kernel
theorem dX5_hear_82 : decode cX5_hear 82 = .ok (.irem, 1) := by decide +kernel
theorem dX5_hear_83 : decode cX5_hear 83 = .ok (.ireturn, 1) := by decide +kernel
theorem dX5_renew_0 : decode cX5_renew 0 = .ok (.aload_n 0, 1) := by decide +kernel
theorem dX5_renew_1 : decode cX5_renew 1 = .ok (.iconst 0, 1) := by decide +kernel
theorem dX5_renew_2 : decode cX5_renew 2 = .ok (.putfield 51, 3) := by decide +kernel
theorem dX5_renew_5 : decode cX5_renew 5 = .ok (.aload_n 0, 1) := by decide +kernel
theorem dX5_renew_6 : decode cX5_renew 6 = .ok (.getfield 19, 3) := by decide +kernel
theorem dX5_renew_9 : decode cX5_renew 9 = .ok (.iload_n 1, 1) := by decide +kernel
theorem dX5_renew_10 : decode cX5_renew 10 = .ok (.invokestatic 75, 3) := by decide +kernel
theorem dX5_renew_13 : decode cX5_renew 13 = .ok (.ifCond .eq 5, 3) := by decide +kernel
theorem dX5_renew_16 : decode cX5_renew 16 = .ok (.iconst (-1), 1) := by decide +kernel
theorem dX5_renew_17 : decode cX5_renew 17 = .ok (.ireturn, 1) := by decide +kernel
theorem dX5_renew_18 : decode cX5_renew 18 = .ok (.iload_n 2, 1) := by decide +kernel
theorem dX5_renew_19 : decode cX5_renew 19 = .ok (.invokestatic 139, 3) := by decide +kernel
theorem dX5_renew_22 : decode cX5_renew 22 = .ok (.ifCond .eq 23, 3) := by decide +kernel
theorem dX5_renew_25 : decode cX5_renew 25 = .ok (.iload_n 3, 1) := by decide +kernel
theorem dX5_renew_26 : decode cX5_renew 26 = .ok (.invokestatic 139, 3) := by decide +kernel
theorem dX5_renew_29 : decode cX5_renew 29 = .ok (.ifCond .eq 16, 3) := by decide +kernel
theorem dX5_renew_32 : decode cX5_renew 32 = .ok (.iload 4, 2) := by decide +kernel
theorem dX5_renew_34 : decode cX5_renew 34 = .ok (.i2l, 1) := by decide +kernel
theorem dX5_renew_35 : decode cX5_renew 35 = .ok (.lconst 1, 1) := by decide +kernel
theorem dX5_renew_36 : decode cX5_renew 36 = .ok (.ldc2_w 148, 3) := by decide +kernel
theorem dX5_renew_39 : decode cX5_renew 39 = .ok (.invokestatic 57, 3) := by decide +kernel
theorem dX5_renew_42 : decode cX5_renew 42 = .ok (.ifCond .ne 6, 3) := by decide +kernel
theorem dX5_renew_45 : decode cX5_renew 45 = .ok (.bipush (-2), 2) := by decide +kernel
theorem dX5_renew_47 : decode cX5_renew 47 = .ok (.ireturn, 1) := by decide +kernel
theorem dX5_renew_48 : decode cX5_renew 48 = .ok (.aload_n 0, 1) := by decide +kernel
theorem dX5_renew_49 : decode cX5_renew 49 = .ok (.getfield 19, 3) := by decide +kernel
theorem dX5_renew_52 : decode cX5_renew 52 = .ok (.iload_n 1, 1) := by decide +kernel
theorem dX5_renew_53 : decode cX5_renew 53 = .ok (.invokestatic 79, 3) := by decide +kernel
theorem dX5_renew_56 : decode cX5_renew 56 = .ok (.ifCond .ne 6, 3) := by decide +kernel
theorem dX5_renew_59 : decode cX5_renew 59 = .ok (.bipush (-3), 2) := by decide +kernel
theorem dX5_renew_61 : decode cX5_renew 61 = .ok (.ireturn, 1) := by decide +kernel
theorem dX5_renew_62 : decode cX5_renew 62 = .ok (.aload_n 0, 1) := by decide +kernel
theorem dX5_renew_63 : decode cX5_renew 63 = .ok (.invokevirtual 145, 3) := by decide +kernel
theorem dX5_renew_66 : decode cX5_renew 66 = .ok (.aload_n 0, 1) := by decide +kernel
theorem dX5_renew_67 : decode cX5_renew 67 = .ok (.getfield 19, 3) := by decide +kernel
theorem dX5_renew_70 : decode cX5_renew 70 = .ok (.iload_n 1, 1) := by decide +kernel
theorem dX5_renew_71 : decode cX5_renew 71 = .ok (.invokestatic 120, 3) := by decide +kernel
theorem dX5_renew_74 : decode cX5_renew 74 = .ok (.istore 5, 2) := by decide +kernel
theorem dX5_renew_76 : decode cX5_renew 76 = .ok (.iload 5, 2) := by decide +kernel
theorem dX5_renew_78 : decode cX5_renew 78 = .ok (.ifCond .le 15, 3) := by decide +kernel
theorem dX5_renew_81 : decode cX5_renew 81 = .ok (.aload_n 0, 1) := by decide +kernel
theorem dX5_renew_82 : decode cX5_renew 82 = .ok (.getfield 19, 3) := by decide +kernel
theorem dX5_renew_85 : decode cX5_renew 85 = .ok (.iload_n 1, 1) := by decide +kernel
theorem dX5_renew_86 : decode cX5_renew 86 = .ok (.iload_n 2, 1) := by decide +kernel
theorem dX5_renew_87 : decode cX5_renew 87 = .ok (.iload_n 3, 1) := by decide +kernel
theorem dX5_renew_88 : decode cX5_renew 88 = .ok (.iload 4, 2) := by decide +kernel
theorem dX5_renew_90 : decode cX5_renew 90 = .ok (.invokestatic 101, 3) := by decide +kernel
theorem dX5_renew_93 : decode cX5_renew 93 = .ok (.iload 5, 2) := by decide +kernel
theorem dX5_renew_95 : decode cX5_renew 95 = .ok (.ireturn, 1) := by decide +kernel
theorem dX5_widen_0 : decode cX5_widen 0 = .ok (.aload_n 0, 1) := by decide +kernel
theorem dX5_widen_1 : decode cX5_widen 1 = .ok (.iconst 0, 1) := by decide +kernel
theorem dX5_widen_2 : decode cX5_widen 2 = .ok (.putfield 51, 3) := by decide +kernel
theorem dX5_widen_5 : decode cX5_widen 5 = .ok (.iload_n 1, 1) := by decide +kernel
theorem dX5_widen_6 : decode cX5_widen 6 = .ok (.i2l, 1) := by decide +kernel
theorem dX5_widen_7 : decode cX5_widen 7 = .ok (.lconst 1, 1) := by decide +kernel
theorem dX5_widen_8 : decode cX5_widen 8 = .ok (.ldc2_w 150, 3) := by decide +kernel
theorem dX5_widen_11 : decode cX5_widen 11 = .ok (.invokestatic 57, 3) := by decide +kernel
theorem dX5_widen_14 : decode cX5_widen 14 = .ok (.ifCond .ne 6, 3) := by decide +kernel
theorem dX5_widen_17 : decode cX5_widen 17 = .ok (.bipush (-2), 2) := by decide +kernel
theorem dX5_widen_19 : decode cX5_widen 19 = .ok (.ireturn, 1) := by decide +kernel
theorem dX5_widen_20 : decode cX5_widen 20 = .ok (.aload_n 0, 1) := by decide +kernel
theorem dX5_widen_21 : decode cX5_widen 21 = .ok (.invokevirtual 145, 3) := by decide +kernel
theorem dX5_widen_24 : decode cX5_widen 24 = .ok (.aload_n 0, 1) := by decide +kernel
theorem dX5_widen_25 : decode cX5_widen 25 = .ok (.getfield 19, 3) := by decide +kernel
theorem dX5_widen_28 : decode cX5_widen 28 = .ok (.bipush 25, 2) := by decide +kernel
theorem dX5_widen_30 : decode cX5_widen 30 = .ok (.iaload, 1) := by decide +kernel
theorem dX5_widen_31 : decode cX5_widen 31 = .ok (.istore_n 2, 1) := by decide +kernel
theorem dX5_widen_32 : decode cX5_widen 32 = .ok (.aload_n 0, 1) := by decide +kernel
theorem dX5_widen_33 : decode cX5_widen 33 = .ok (.getfield 19, 3) := by decide +kernel
theorem dX5_widen_36 : decode cX5_widen 36 = .ok (.bipush 25, 2) := by decide +kernel
theorem dX5_widen_38 : decode cX5_widen 38 = .ok (.iload_n 1, 1) := by decide +kernel
theorem dX5_widen_39 : decode cX5_widen 39 = .ok (.iastore, 1) := by decide +kernel
theorem dX5_widen_40 : decode cX5_widen 40 = .ok (.iload_n 2, 1) := by decide +kernel
theorem dX5_widen_41 : decode cX5_widen 41 = .ok (.ireturn, 1) := by decide +kernel
theorem dX5_undo_0 : decode cX5_undo 0 = .ok (.aload_n 0, 1) := by decide +kernel
theorem dX5_undo_1 : decode cX5_undo 1 = .ok (.iconst 0, 1) := by decide +kernel
theorem dX5_undo_2 : decode cX5_undo 2 = .ok (.putfield 51, 3) := by decide +kernel
theorem dX5_undo_5 : decode cX5_undo 5 = .ok (.aload_n 0, 1) := by decide +kernel
theorem dX5_undo_6 : decode cX5_undo 6 = .ok (.getfield 124, 3) := by decide +kernel
theorem dX5_undo_9 : decode cX5_undo 9 = .ok (.ifCond .ne 6, 3) := by decide +kernel
theorem dX5_undo_12 : decode cX5_undo 12 = .ok (.bipush (-3), 2) := by decide +kernel
theorem dX5_undo_14 : decode cX5_undo 14 = .ok (.ireturn, 1) := by decide +kernel
theorem dX5_undo_15 : decode cX5_undo 15 = .ok (.aload_n 0, 1) := by decide +kernel
theorem dX5_undo_16 : decode cX5_undo 16 = .ok (.dup, 1) := by decide +kernel
theorem dX5_undo_17 : decode cX5_undo 17 = .ok (.getfield 124, 3) := by decide +kernel
theorem dX5_undo_20 : decode cX5_undo 20 = .ok (.iconst 1, 1) := by decide +kernel
theorem dX5_undo_21 : decode cX5_undo 21 = .ok (.isub, 1) := by decide +kernel
theorem dX5_undo_22 : decode cX5_undo 22 = .ok (.putfield 124, 3) := by decide +kernel
theorem dX5_undo_25 : decode cX5_undo 25 = .ok (.iconst 0, 1) := by decide +kernel
theorem dX5_undo_26 : decode cX5_undo 26 = .ok (.istore_n 1, 1) := by decide +kernel
theorem dX5_undo_27 : decode cX5_undo 27 = .ok (.iload_n 1, 1) := by decide +kernel
theorem dX5_undo_28 : decode cX5_undo 28 = .ok (.bipush 36, 2) := by decide +kernel
theorem dX5_undo_30 : decode cX5_undo 30 = .ok (.if_icmp .ge 29, 3) := by decide +kernel
theorem dX5_undo_33 : decode cX5_undo 33 = .ok (.aload_n 0, 1) := by decide +kernel
theorem dX5_undo_34 : decode cX5_undo 34 = .ok (.getfield 19, 3) := by decide +kernel
theorem dX5_undo_37 : decode cX5_undo 37 = .ok (.iload_n 1, 1) := by decide +kernel
theorem dX5_undo_38 : decode cX5_undo 38 = .ok (.aload_n 0, 1) := by decide +kernel
theorem dX5_undo_39 : decode cX5_undo 39 = .ok (.getfield 25, 3) := by decide +kernel
theorem dX5_undo_42 : decode cX5_undo 42 = .ok (.bipush 36, 2) := by decide +kernel
theorem dX5_undo_44 : decode cX5_undo 44 = .ok (.aload_n 0, 1) := by decide +kernel
theorem dX5_undo_45 : decode cX5_undo 45 = .ok (.getfield 124, 3) := by decide +kernel
theorem dX5_undo_48 : decode cX5_undo 48 = .ok (.imul, 1) := by decide +kernel
theorem dX5_undo_49 : decode cX5_undo 49 = .ok (.iload_n 1, 1) := by decide +kernel
theorem dX5_undo_50 : decode cX5_undo 50 = .ok (.iadd, 1) := by decide +kernel
theorem dX5_undo_51 : decode cX5_undo 51 = .ok (.iaload, 1) := by decide +kernel
theorem dX5_undo_52 : decode cX5_undo 52 = .ok (.iastore, 1) := by decide +kernel
theorem dX5_undo_53 : decode cX5_undo 53 = .ok (.iinc 1 1, 3) := by decide +kernel
theorem dX5_undo_56 : decode cX5_undo 56 = .ok (.goto (-29), 3) := by decide +kernel
theorem dX5_undo_59 : decode cX5_undo 59 = .ok (.aload_n 0, 1) := by decide +kernel
theorem dX5_undo_60 : decode cX5_undo 60 = .ok (.getfield 124, 3) := by decide +kernel
theorem dX5_undo_63 : decode cX5_undo 63 = .ok (.ireturn, 1) := by decide +kernel
theorem dX5_fits_0 : decode cX5_fits 0 = .ok (.aload_n 0, 1) := by decide +kernel
theorem dX5_fits_1 : decode cX5_fits 1 = .ok (.iconst 0, 1) := by decide +kernel
theorem dX5_fits_2 : decode cX5_fits 2 = .ok (.putfield 51, 3) := by decide +kernel
theorem dX5_fits_5 : decode cX5_fits 5 = .ok (.aload_n 0, 1) := by decide +kernel
theorem dX5_fits_6 : decode cX5_fits 6 = .ok (.getfield 19, 3) := by decide +kernel
theorem dX5_fits_9 : decode cX5_fits 9 = .ok (.iload_n 1, 1) := by decide +kernel
theorem dX5_fits_10 : decode cX5_fits 10 = .ok (.invokestatic 75, 3) := by decide +kernel
theorem dX5_fits_13 : decode cX5_fits 13 = .ok (.ifCond .eq 5, 3) := by decide +kernel
theorem dX5_fits_16 : decode cX5_fits 16 = .ok (.iconst (-1), 1) := by decide +kernel
theorem dX5_fits_17 : decode cX5_fits 17 = .ok (.ireturn, 1) := by decide +kernel
theorem dX5_fits_18 : decode cX5_fits 18 = .ok (.iload_n 2, 1) := by decide +kernel
theorem dX5_fits_19 : decode cX5_fits 19 = .ok (.invokestatic 139, 3) := by decide +kernel
theorem dX5_fits_22 : decode cX5_fits 22 = .ok (.ifCond .eq 15, 3) := by decide +kernel
theorem dX5_fits_25 : decode cX5_fits 25 = .ok (.aload_n 0, 1) := by decide +kernel
theorem dX5_fits_26 : decode cX5_fits 26 = .ok (.getfield 19, 3) := by decide +kernel
theorem dX5_fits_29 : decode cX5_fits 29 = .ok (.iload_n 1, 1) := by decide +kernel
theorem dX5_fits_30 : decode cX5_fits 30 = .ok (.iload_n 2, 1) := by decide +kernel
theorem dX5_fits_31 : decode cX5_fits 31 = .ok (.invokestatic 65, 3) := by decide +kernel
theorem dX5_fits_34 : decode cX5_fits 34 = .ok (.goto 5, 3) := by decide +kernel
theorem dX5_fits_37 : decode cX5_fits 37 = .ok (.bipush (-2), 2) := by decide +kernel
theorem dX5_fits_39 : decode cX5_fits 39 = .ok (.ireturn, 1) := by decide +kernel
theorem dX5_fittingOf_0 : decode cX5_fittingOf 0 = .ok (.iconst 0, 1) := by decide +kernel
theorem dX5_fittingOf_1 : decode cX5_fittingOf 1 = .ok (.istore_n 2, 1) := by decide +kernel
theorem dX5_fittingOf_2 : decode cX5_fittingOf 2 = .ok (.iconst 0, 1) := by decide +kernel
theorem dX5_fittingOf_3 : decode cX5_fittingOf 3 = .ok (.istore_n 3, 1) := by decide +kernel
theorem dX5_fittingOf_4 : decode cX5_fittingOf 4 = .ok (.iload_n 3, 1) := by decide +kernel
theorem dX5_fittingOf_5 : decode cX5_fittingOf 5 = .ok (.sipush 251, 3) := by decide +kernel
theorem dX5_fittingOf_8 : decode cX5_fittingOf 8 = .ok (.if_icmp .ge 80, 3) := by decide +kernel
theorem dX5_fittingOf_11 : decode cX5_fittingOf 11 = .ok (.iconst 0, 1) := by decide +kernel
theorem dX5_fittingOf_12 : decode cX5_fittingOf 12 = .ok (.istore 4, 2) := by decide +kernel
theorem dX5_fittingOf_14 : decode cX5_fittingOf 14 = .ok (.iconst 0, 1) := by decide +kernel
theorem dX5_fittingOf_15 : decode cX5_fittingOf 15 = .ok (.istore 5, 2) := by decide +kernel
theorem dX5_fittingOf_17 : decode cX5_fittingOf 17 = .ok (.iload 5, 2) := by decide +kernel
theorem dX5_fittingOf_19 : decode cX5_fittingOf 19 = .ok (.aload_n 0, 1) := by decide +kernel
theorem dX5_fittingOf_20 : decode cX5_fittingOf 20 = .ok (.getfield 19, 3) := by decide +kernel
theorem dX5_fittingOf_23 : decode cX5_fittingOf 23 = .ok (.bipush 24, 2) := by decide +kernel
theorem dX5_fittingOf_25 : decode cX5_fittingOf 25 = .ok (.iaload, 1) := by decide +kernel
theorem dX5_fittingOf_26 : decode cX5_fittingOf 26 = .ok (.if_icmp .ge 43, 3) := by decide +kernel
theorem dX5_fittingOf_29 : decode cX5_fittingOf 29 = .ok (.iload 4, 2) := by decide +kernel
theorem dX5_fittingOf_31 : decode cX5_fittingOf 31 = .ok (.ifCond .ne 25, 3) := by decide +kernel
theorem dX5_fittingOf_34 : decode cX5_fittingOf 34 = .ok (.iload_n 1, 1) := by decide +kernel
theorem dX5_fittingOf_35 : decode cX5_fittingOf 35 = .ok (.iload 5, 2) := by decide +kernel
theorem dX5_fittingOf_37 : decode cX5_fittingOf 37 = .ok (.invokestatic 152, 3) := by decide +kernel
theorem dX5_fittingOf_40 : decode cX5_fittingOf 40 = .ok (.ifCond .eq 20, 3) := by decide +kernel
theorem dX5_fittingOf_43 : decode cX5_fittingOf 43 = .ok (.aload_n 0, 1) := by decide +kernel
theorem dX5_fittingOf_44 : decode cX5_fittingOf 44 = .ok (.getfield 19, 3) := by decide +kernel
theorem dX5_fittingOf_47 : decode cX5_fittingOf 47 = .ok (.iload 5, 2) := by decide +kernel
theorem dX5_fittingOf_49 : decode cX5_fittingOf 49 = .ok (.iload_n 3, 1) := by decide +kernel
theorem dX5_fittingOf_50 : decode cX5_fittingOf 50 = .ok (.invokestatic 65, 3) := by decide +kernel
theorem dX5_fittingOf_53 : decode cX5_fittingOf 53 = .ok (.ifCond .le 7, 3) := by decide +kernel
theorem dX5_fittingOf_56 : decode cX5_fittingOf 56 = .ok (.iconst 1, 1) := by decide +kernel
theorem dX5_fittingOf_57 : decode cX5_fittingOf 57 = .ok (.goto 4, 3) := by decide +kernel
theorem dX5_fittingOf_60 : decode cX5_fittingOf 60 = .ok (.iconst 0, 1) := by decide +kernel
theorem dX5_fittingOf_61 : decode cX5_fittingOf 61 = .ok (.istore 4, 2) := by decide +kernel
theorem dX5_fittingOf_63 : decode cX5_fittingOf 63 = .ok (.iinc 5 1, 3) := by decide +kernel
theorem dX5_fittingOf_66 : decode cX5_fittingOf 66 = .ok (.goto (-49), 3) := by decide +kernel
theorem dX5_fittingOf_69 : decode cX5_fittingOf 69 = .ok (.iload_n 2, 1) := by decide +kernel
theorem dX5_fittingOf_70 : decode cX5_fittingOf 70 = .ok (.iload 4, 2) := by decide +kernel
theorem dX5_fittingOf_72 : decode cX5_fittingOf 72 = .ok (.ifCond .eq 7, 3) := by decide +kernel
theorem dX5_fittingOf_75 : decode cX5_fittingOf 75 = .ok (.iconst 1, 1) := by decide +kernel
theorem dX5_fittingOf_76 : decode cX5_fittingOf 76 = .ok (.goto 4, 3) := by decide +kernel
theorem dX5_fittingOf_79 : decode cX5_fittingOf 79 = .ok (.iconst 0, 1) := by decide +kernel
theorem dX5_fittingOf_80 : decode cX5_fittingOf 80 = .ok (.iadd, 1) := by decide +kernel
theorem dX5_fittingOf_81 : decode cX5_fittingOf 81 = .ok (.istore_n 2, 1) := by decide +kernel
theorem dX5_fittingOf_82 : decode cX5_fittingOf 82 = .ok (.iinc 3 1, 3) := by decide +kernel
theorem dX5_fittingOf_85 : decode cX5_fittingOf 85 = .ok (.goto (-81), 3) := by decide +kernel
theorem dX5_fittingOf_88 : decode cX5_fittingOf 88 = .ok (.iload_n 2, 1) := by decide +kernel
theorem dX5_fittingOf_89 : decode cX5_fittingOf 89 = .ok (.ireturn, 1) := by decide +kernel
theorem dX5_fitting_0 : decode cX5_fitting 0 = .ok (.aload_n 0, 1) := by decide +kernel
theorem dX5_fitting_1 : decode cX5_fitting 1 = .ok (.iconst 0, 1) := by decide +kernel
theorem dX5_fitting_2 : decode cX5_fitting 2 = .ok (.putfield 51, 3) := by decide +kernel
theorem dX5_fitting_5 : decode cX5_fitting 5 = .ok (.aload_n 0, 1) := by decide +kernel
theorem dX5_fitting_6 : decode cX5_fitting 6 = .ok (.getfield 19, 3) := by decide +kernel
theorem dX5_fitting_9 : decode cX5_fitting 9 = .ok (.iload_n 1, 1) := by decide +kernel
theorem dX5_fitting_10 : decode cX5_fitting 10 = .ok (.invokestatic 75, 3) := by decide +kernel
theorem dX5_fitting_13 : decode cX5_fitting 13 = .ok (.ifCond .eq 5, 3) := by decide +kernel
theorem dX5_fitting_16 : decode cX5_fitting 16 = .ok (.iconst (-1), 1) := by decide +kernel
theorem dX5_fitting_17 : decode cX5_fitting 17 = .ok (.ireturn, 1) := by decide +kernel
theorem dX5_fitting_18 : decode cX5_fitting 18 = .ok (.iload_n 2, 1) := by decide +kernel
theorem dX5_fitting_19 : decode cX5_fitting 19 = .ok (.i2l, 1) := by decide +kernel
theorem dX5_fitting_20 : decode cX5_fitting 20 = .ok (.lconst 0, 1) := by decide +kernel
theorem dX5_fitting_21 : decode cX5_fitting 21 = .ok (.lconst 1, 1) := by decide +kernel
theorem dX5_fitting_22 : decode cX5_fitting 22 = .ok (.invokestatic 57, 3) := by decide +kernel
theorem dX5_fitting_25 : decode cX5_fitting 25 = .ok (.ifCond .ne 6, 3) := by decide +kernel
theorem dX5_fitting_28 : decode cX5_fitting 28 = .ok (.bipush (-2), 2) := by decide +kernel
theorem dX5_fitting_30 : decode cX5_fitting 30 = .ok (.ireturn, 1) := by decide +kernel
theorem dX5_fitting_31 : decode cX5_fitting 31 = .ok (.bipush (-9), 2) := by decide +kernel
theorem dX5_fitting_33 : decode cX5_fitting 33 = .ok (.istore_n 3, 1) := by decide +kernel
theorem dX5_fitting_34 : decode cX5_fitting 34 = .ok (.sipush 250, 3) := by decide +kernel
theorem dX5_fitting_37 : decode cX5_fitting 37 = .ok (.istore 4, 2) := by decide +kernel
theorem dX5_fitting_39 : decode cX5_fitting 39 = .ok (.iload 4, 2) := by decide +kernel
theorem dX5_fitting_41 : decode cX5_fitting 41 = .ok (.ifCond .lt 29, 3) := by decide +kernel
theorem dX5_fitting_44 : decode cX5_fitting 44 = .ok (.aload_n 0, 1) := by decide +kernel
theorem dX5_fitting_45 : decode cX5_fitting 45 = .ok (.getfield 19, 3) := by decide +kernel
theorem dX5_fitting_48 : decode cX5_fitting 48 = .ok (.iload_n 1, 1) := by decide +kernel
theorem dX5_fitting_49 : decode cX5_fitting 49 = .ok (.iload 4, 2) := by decide +kernel
theorem dX5_fitting_51 : decode cX5_fitting 51 = .ok (.invokestatic 65, 3) := by decide +kernel
theorem dX5_fitting_54 : decode cX5_fitting 54 = .ok (.ifCond .le 8, 3) := by decide +kernel
theorem dX5_fitting_57 : decode cX5_fitting 57 = .ok (.iload 4, 2) := by decide +kernel
theorem dX5_fitting_59 : decode cX5_fitting 59 = .ok (.goto 4, 3) := by decide +kernel
theorem dX5_fitting_62 : decode cX5_fitting 62 = .ok (.iload_n 3, 1) := by decide +kernel
theorem dX5_fitting_63 : decode cX5_fitting 63 = .ok (.istore_n 3, 1) := by decide +kernel
theorem dX5_fitting_64 : decode cX5_fitting 64 = .ok (.iinc 4 (-1), 3) := by decide +kernel
theorem dX5_fitting_67 : decode cX5_fitting 67 = .ok (.goto (-28), 3) := by decide +kernel
theorem dX5_fitting_70 : decode cX5_fitting 70 = .ok (.iload_n 2, 1) := by decide +kernel
theorem dX5_fitting_71 : decode cX5_fitting 71 = .ok (.ifCond .ne 13, 3) := by decide +kernel
theorem dX5_fitting_74 : decode cX5_fitting 74 = .ok (.aload_n 0, 1) := by decide +kernel
theorem dX5_fitting_75 : decode cX5_fitting 75 = .ok (.iconst 1, 1) := by decide +kernel
theorem dX5_fitting_76 : decode cX5_fitting 76 = .ok (.iload_n 1, 1) := by decide +kernel
theorem dX5_fitting_77 : decode cX5_fitting 77 = .ok (.ishl, 1) := by decide +kernel
theorem dX5_fitting_78 : decode cX5_fitting 78 = .ok (.invokevirtual 156, 3) := by decide +kernel
theorem dX5_fitting_81 : decode cX5_fitting 81 = .ok (.goto 4, 3) := by decide +kernel
theorem dX5_fitting_84 : decode cX5_fitting 84 = .ok (.iload_n 3, 1) := by decide +kernel
theorem dX5_fitting_85 : decode cX5_fitting 85 = .ok (.ireturn, 1) := by decide +kernel
theorem dX5_thief_0 : decode cX5_thief 0 = .ok (.aload_n 0, 1) := by decide +kernel
theorem dX5_thief_1 : decode cX5_thief 1 = .ok (.iconst 0, 1) := by decide +kernel
theorem dX5_thief_2 : decode cX5_thief 2 = .ok (.putfield 51, 3) := by decide +kernel
theorem dX5_thief_5 : decode cX5_thief 5 = .ok (.aload_n 0, 1) := by decide +kernel
theorem dX5_thief_6 : decode cX5_thief 6 = .ok (.getfield 19, 3) := by decide +kernel
theorem dX5_thief_9 : decode cX5_thief 9 = .ok (.iload_n 1, 1) := by decide +kernel
theorem dX5_thief_10 : decode cX5_thief 10 = .ok (.invokestatic 75, 3) := by decide +kernel
theorem dX5_thief_13 : decode cX5_thief 13 = .ok (.ifCond .eq 5, 3) := by decide +kernel
theorem dX5_thief_16 : decode cX5_thief 16 = .ok (.iconst (-1), 1) := by decide +kernel
theorem dX5_thief_17 : decode cX5_thief 17 = .ok (.ireturn, 1) := by decide +kernel
theorem dX5_thief_18 : decode cX5_thief 18 = .ok (.bipush (-9), 2) := by decide +kernel
theorem dX5_thief_20 : decode cX5_thief 20 = .ok (.istore_n 2, 1) := by decide +kernel
theorem dX5_thief_21 : decode cX5_thief 21 = .ok (.iconst 0, 1) := by decide +kernel
theorem dX5_thief_22 : decode cX5_thief 22 = .ok (.istore_n 3, 1) := by decide +kernel
theorem dX5_thief_23 : decode cX5_thief 23 = .ok (.iload_n 3, 1) := by decide +kernel
theorem dX5_thief_24 : decode cX5_thief 24 = .ok (.aload_n 0, 1) := by decide +kernel
theorem dX5_thief_25 : decode cX5_thief 25 = .ok (.getfield 19, 3) := by decide +kernel
theorem dX5_thief_28 : decode cX5_thief 28 = .ok (.bipush 27, 2) := by decide +kernel
theorem dX5_thief_30 : decode cX5_thief 30 = .ok (.iaload, 1) := by decide +kernel
theorem dX5_thief_31 : decode cX5_thief 31 = .ok (.if_icmp .ge 105, 3) := by decide +kernel
theorem dX5_thief_34 : decode cX5_thief 34 = .ok (.iconst 0, 1) := by decide +kernel
theorem dX5_thief_35 : decode cX5_thief 35 = .ok (.istore 4, 2) := by decide +kernel
theorem dX5_thief_37 : decode cX5_thief 37 = .ok (.iload 4, 2) := by decide +kernel
theorem dX5_thief_39 : decode cX5_thief 39 = .ok (.bipush 11, 2) := by decide +kernel
theorem dX5_thief_41 : decode cX5_thief 41 = .ok (.if_icmp .ge 89, 3) := by decide +kernel
theorem dX5_thief_44 : decode cX5_thief 44 = .ok (.aload_n 0, 1) := by decide +kernel
theorem dX5_thief_45 : decode cX5_thief 45 = .ok (.getfield 19, 3) := by decide +kernel
theorem dX5_thief_48 : decode cX5_thief 48 = .ok (.bipush 28, 2) := by decide +kernel
theorem dX5_thief_50 : decode cX5_thief 50 = .ok (.iload_n 3, 1) := by decide +kernel
theorem dX5_thief_51 : decode cX5_thief 51 = .ok (.iadd, 1) := by decide +kernel
theorem dX5_thief_52 : decode cX5_thief 52 = .ok (.iaload, 1) := by decide +kernel
theorem dX5_thief_53 : decode cX5_thief 53 = .ok (.sipush 1000, 3) := by decide +kernel
theorem dX5_thief_56 : decode cX5_thief 56 = .ok (.idiv, 1) := by decide +kernel
theorem dX5_thief_57 : decode cX5_thief 57 = .ok (.iload_n 1, 1) := by decide +kernel
theorem dX5_thief_58 : decode cX5_thief 58 = .ok (.if_icmp .ne 72, 3) := by decide +kernel
theorem dX5_thief_61 : decode cX5_thief 61 = .ok (.aload_n 0, 1) := by decide +kernel
theorem dX5_thief_62 : decode cX5_thief 62 = .ok (.getfield 19, 3) := by decide +kernel
theorem dX5_thief_65 : decode cX5_thief 65 = .ok (.bipush 28, 2) := by decide +kernel
theorem dX5_thief_67 : decode cX5_thief 67 = .ok (.iload_n 3, 1) := by decide +kernel
theorem dX5_thief_68 : decode cX5_thief 68 = .ok (.iadd, 1) := by decide +kernel
theorem dX5_thief_69 : decode cX5_thief 69 = .ok (.iaload, 1) := by decide +kernel
theorem dX5_thief_70 : decode cX5_thief 70 = .ok (.sipush 1000, 3) := by decide +kernel
theorem dX5_thief_73 : decode cX5_thief 73 = .ok (.irem, 1) := by decide +kernel
theorem dX5_thief_74 : decode cX5_thief 74 = .ok (.aload_n 0, 1) := by decide +kernel
theorem dX5_thief_75 : decode cX5_thief 75 = .ok (.getfield 19, 3) := by decide +kernel
theorem dX5_thief_78 : decode cX5_thief 78 = .ok (.bipush 6, 2) := by decide +kernel
theorem dX5_thief_80 : decode cX5_thief 80 = .ok (.iload_n 1, 1) := by decide +kernel
theorem dX5_thief_81 : decode cX5_thief 81 = .ok (.imul, 1) := by decide +kernel
theorem dX5_thief_82 : decode cX5_thief 82 = .ok (.iconst 1, 1) := by decide +kernel
theorem dX5_thief_83 : decode cX5_thief 83 = .ok (.iadd, 1) := by decide +kernel
theorem dX5_thief_84 : decode cX5_thief 84 = .ok (.iaload, 1) := by decide +kernel
theorem dX5_thief_85 : decode cX5_thief 85 = .ok (.iload 4, 2) := by decide +kernel
theorem dX5_thief_87 : decode cX5_thief 87 = .ok (.invokestatic 61, 3) := by decide +kernel
theorem dX5_thief_90 : decode cX5_thief 90 = .ok (.istore 5, 2) := by decide +kernel
theorem dX5_thief_92 : decode cX5_thief 92 = .ok (.aload_n 0, 1) := by decide +kernel
theorem dX5_thief_93 : decode cX5_thief 93 = .ok (.getfield 19, 3) := by decide +kernel
theorem dX5_thief_96 : decode cX5_thief 96 = .ok (.iload_n 1, 1) := by decide +kernel
theorem dX5_thief_97 : decode cX5_thief 97 = .ok (.iload 5, 2) := by decide +kernel
theorem dX5_thief_99 : decode cX5_thief 99 = .ok (.invokestatic 65, 3) := by decide +kernel
theorem dX5_thief_102 : decode cX5_thief 102 = .ok (.ifCond .le 20, 3) := by decide +kernel
theorem dX5_thief_105 : decode cX5_thief 105 = .ok (.iload_n 2, 1) := by decide +kernel
theorem dX5_thief_106 : decode cX5_thief 106 = .ok (.bipush (-9), 2) := by decide +kernel
theorem dX5_thief_108 : decode cX5_thief 108 = .ok (.if_icmp .eq 9, 3) := by decide +kernel
theorem dX5_thief_111 : decode cX5_thief 111 = .ok (.iload 5, 2) := by decide +kernel
theorem dX5_thief_113 : decode cX5_thief 113 = .ok (.iload_n 2, 1) := by decide +kernel
theorem dX5_thief_114 : decode cX5_thief 114 = .ok (.if_icmp .ge 8, 3) := by decide +kernel
theorem dX5_thief_117 : decode cX5_thief 117 = .ok (.iload 5, 2) := by decide +kernel
theorem dX5_thief_119 : decode cX5_thief 119 = .ok (.goto 4, 3) := by decide +kernel
theorem dX5_thief_122 : decode cX5_thief 122 = .ok (.iload_n 2, 1) := by decide +kernel
theorem dX5_thief_123 : decode cX5_thief 123 = .ok (.istore_n 2, 1) := by decide +kernel
theorem dX5_thief_124 : decode cX5_thief 124 = .ok (.iinc 4 1, 3) := by decide +kernel
theorem dX5_thief_127 : decode cX5_thief 127 = .ok (.goto (-90), 3) := by decide +kernel
theorem dX5_thief_130 : decode cX5_thief 130 = .ok (.iinc 3 1, 3) := by decide +kernel
theorem dX5_thief_133 : decode cX5_thief 133 = .ok (.goto (-110), 3) := by decide +kernel
theorem dX5_thief_136 : decode cX5_thief 136 = .ok (.iload_n 2, 1) := by decide +kernel
theorem dX5_thief_137 : decode cX5_thief 137 = .ok (.ireturn, 1) := by decide +kernel
theorem dX5_heard_0 : decode cX5_heard 0 = .ok (.aload_n 0, 1) := by decide +kernel
theorem dX5_heard_1 : decode cX5_heard 1 = .ok (.iconst 0, 1) := by decide +kernel
theorem dX5_heard_2 : decode cX5_heard 2 = .ok (.putfield 51, 3) := by decide +kernel
theorem dX5_heard_5 : decode cX5_heard 5 = .ok (.iload_n 1, 1) := by decide +kernel
theorem dX5_heard_6 : decode cX5_heard 6 = .ok (.i2l, 1) := by decide +kernel
theorem dX5_heard_7 : decode cX5_heard 7 = .ok (.lconst 0, 1) := by decide +kernel
theorem dX5_heard_8 : decode cX5_heard 8 = .ok (.aload_n 0, 1) := by decide +kernel
theorem dX5_heard_9 : decode cX5_heard 9 = .ok (.getfield 19, 3) := by decide +kernel
theorem dX5_heard_12 : decode cX5_heard 12 = .ok (.bipush 27, 2) := by decide +kernel
theorem dX5_heard_14 : decode cX5_heard 14 = .ok (.iaload, 1) := by decide +kernel
theorem dX5_heard_15 : decode cX5_heard 15 = .ok (.iconst 1, 1) := by decide +kernel
theorem dX5_heard_16 : decode cX5_heard 16 = .ok (.isub, 1) := by decide +kernel
theorem dX5_heard_17 : decode cX5_heard 17 = .ok (.i2l, 1) := by decide +kernel
theorem dX5_heard_18 : decode cX5_heard 18 = .ok (.invokestatic 57, 3) := by decide +kernel
theorem dX5_heard_21 : decode cX5_heard 21 = .ok (.ifCond .eq 15, 3) := by decide +kernel
theorem dX5_heard_24 : decode cX5_heard 24 = .ok (.aload_n 0, 1) := by decide +kernel
theorem dX5_heard_25 : decode cX5_heard 25 = .ok (.getfield 19, 3) := by decide +kernel
theorem dX5_heard_28 : decode cX5_heard 28 = .ok (.bipush 28, 2) := by decide +kernel
theorem dX5_heard_30 : decode cX5_heard 30 = .ok (.iload_n 1, 1) := by decide +kernel
theorem dX5_heard_31 : decode cX5_heard 31 = .ok (.iadd, 1) := by decide +kernel
theorem dX5_heard_32 : decode cX5_heard 32 = .ok (.iaload, 1) := by decide +kernel
theorem dX5_heard_33 : decode cX5_heard 33 = .ok (.goto 5, 3) := by decide +kernel
theorem dX5_heard_36 : decode cX5_heard 36 = .ok (.bipush (-9), 2) := by decide +kernel
theorem dX5_heard_38 : decode cX5_heard 38 = .ok (.ireturn, 1) := by decide +kernel
theorem dX5_does_0 : decode cX5_does 0 = .ok (.aload_n 0, 1) := by decide +kernel
theorem dX5_does_1 : decode cX5_does 1 = .ok (.getfield 22, 3) := by decide +kernel
theorem dX5_does_4 : decode cX5_does 4 = .ok (.iload_n 2, 1) := by decide +kernel
theorem dX5_does_5 : decode cX5_does 5 = .ok (.invokestatic 75, 3) := by decide +kernel
theorem dX5_does_8 : decode cX5_does 8 = .ok (.ifCond .ne 7, 3) := by decide +kernel
theorem dX5_does_11 : decode cX5_does 11 = .ok (.iconst 1, 1) := by decide +kernel
theorem dX5_does_12 : decode cX5_does 12 = .ok (.goto 4, 3) := by decide +kernel
theorem dX5_does_15 : decode cX5_does 15 = .ok (.iconst 0, 1) := by decide +kernel
theorem dX5_does_16 : decode cX5_does 16 = .ok (.istore 5, 2) := by decide +kernel
theorem dX5_does_18 : decode cX5_does 18 = .ok (.bipush 10, 2) := by decide +kernel
theorem dX5_does_20 : decode cX5_does 20 = .ok (.iload_n 3, 1) := by decide +kernel
theorem dX5_does_21 : decode cX5_does 21 = .ok (.imul, 1) := by decide +kernel
theorem dX5_does_22 : decode cX5_does 22 = .ok (.iload 4, 2) := by decide +kernel
theorem dX5_does_24 : decode cX5_does 24 = .ok (.iadd, 1) := by decide +kernel
theorem dX5_does_25 : decode cX5_does 25 = .ok (.istore 6, 2) := by decide +kernel
theorem dX5_does_27 : decode cX5_does 27 = .ok (.iload_n 1, 1) := by decide +kernel
theorem dX5_does_28 : decode cX5_does 28 = .ok (.tableswitch 301 1 7 #[44, 73, 108, 135, 162, 233, 272], 44) := by decide +kernel
theorem dX5_does_72 : decode cX5_does 72 = .ok (.iload 6, 2) := by decide +kernel
theorem dX5_does_74 : decode cX5_does 74 = .ok (.ifCond .ne 14, 3) := by decide +kernel
theorem dX5_does_77 : decode cX5_does 77 = .ok (.aload_n 0, 1) := by decide +kernel
theorem dX5_does_78 : decode cX5_does 78 = .ok (.getfield 22, 3) := by decide +kernel
theorem dX5_does_81 : decode cX5_does 81 = .ok (.iload_n 2, 1) := by decide +kernel
theorem dX5_does_82 : decode cX5_does 82 = .ok (.invokestatic 79, 3) := by decide +kernel
theorem dX5_does_85 : decode cX5_does 85 = .ok (.ifCond .ne 5, 3) := by decide +kernel
theorem dX5_does_88 : decode cX5_does 88 = .ok (.iconst 0, 1) := by decide +kernel
theorem dX5_does_89 : decode cX5_does 89 = .ok (.ireturn, 1) := by decide +kernel
theorem dX5_does_90 : decode cX5_does 90 = .ok (.aload_n 0, 1) := by decide +kernel
theorem dX5_does_91 : decode cX5_does 91 = .ok (.getfield 22, 3) := by decide +kernel
theorem dX5_does_94 : decode cX5_does 94 = .ok (.iload_n 2, 1) := by decide +kernel
theorem dX5_does_95 : decode cX5_does 95 = .ok (.invokestatic 120, 3) := by decide +kernel
theorem dX5_does_98 : decode cX5_does 98 = .ok (.pop, 1) := by decide +kernel
theorem dX5_does_99 : decode cX5_does 99 = .ok (.iconst 1, 1) := by decide +kernel
theorem dX5_does_100 : decode cX5_does 100 = .ok (.ireturn, 1) := by decide +kernel
theorem dX5_does_101 : decode cX5_does 101 = .ok (.iload 6, 2) := by decide +kernel
theorem dX5_does_103 : decode cX5_does 103 = .ok (.ifCond .ne 14, 3) := by decide +kernel
theorem dX5_does_106 : decode cX5_does 106 = .ok (.aload_n 0, 1) := by decide +kernel
theorem dX5_does_107 : decode cX5_does 107 = .ok (.getfield 22, 3) := by decide +kernel
theorem dX5_does_110 : decode cX5_does 110 = .ok (.iload_n 2, 1) := by decide +kernel
theorem dX5_does_111 : decode cX5_does 111 = .ok (.invokestatic 79, 3) := by decide +kernel
theorem dX5_does_114 : decode cX5_does 114 = .ok (.ifCond .ne 5, 3) := by decide +kernel
theorem dX5_does_117 : decode cX5_does 117 = .ok (.iconst 0, 1) := by decide +kernel
theorem dX5_does_118 : decode cX5_does 118 = .ok (.ireturn, 1) := by decide +kernel
theorem dX5_does_119 : decode cX5_does 119 = .ok (.aload_n 0, 1) := by decide +kernel
theorem dX5_does_120 : decode cX5_does 120 = .ok (.getfield 22, 3) := by decide +kernel
theorem dX5_does_123 : decode cX5_does 123 = .ok (.bipush 6, 2) := by decide +kernel
theorem dX5_does_125 : decode cX5_does 125 = .ok (.iload_n 2, 1) := by decide +kernel
theorem dX5_does_126 : decode cX5_does 126 = .ok (.imul, 1) := by decide +kernel
theorem dX5_does_127 : decode cX5_does 127 = .ok (.iconst 3, 1) := by decide +kernel
theorem dX5_does_128 : decode cX5_does 128 = .ok (.iadd, 1) := by decide +kernel
theorem dX5_does_129 : decode cX5_does 129 = .ok (.dup2, 1) := by decide +kernel
theorem dX5_does_130 : decode cX5_does 130 = .ok (.iaload, 1) := by decide +kernel
theorem dX5_does_131 : decode cX5_does 131 = .ok (.iconst 1, 1) := by decide +kernel
theorem dX5_does_132 : decode cX5_does 132 = .ok (.isub, 1) := by decide +kernel
theorem dX5_does_133 : decode cX5_does 133 = .ok (.iastore, 1) := by decide +kernel
theorem dX5_does_134 : decode cX5_does 134 = .ok (.iconst 1, 1) := by decide +kernel
theorem dX5_does_135 : decode cX5_does 135 = .ok (.ireturn, 1) := by decide +kernel
theorem dX5_does_136 : decode cX5_does 136 = .ok (.iload 5, 2) := by decide +kernel
theorem dX5_does_138 : decode cX5_does 138 = .ok (.ifCond .eq 23, 3) := by decide +kernel
theorem dX5_does_141 : decode cX5_does 141 = .ok (.aload_n 0, 1) := by decide +kernel
theorem dX5_does_142 : decode cX5_does 142 = .ok (.getfield 22, 3) := by decide +kernel
theorem dX5_does_145 : decode cX5_does 145 = .ok (.bipush 6, 2) := by decide +kernel
theorem dX5_does_147 : decode cX5_does 147 = .ok (.iload_n 2, 1) := by decide +kernel
theorem dX5_does_148 : decode cX5_does 148 = .ok (.imul, 1) := by decide +kernel
theorem dX5_does_149 : decode cX5_does 149 = .ok (.iconst 3, 1) := by decide +kernel
theorem dX5_does_150 : decode cX5_does 150 = .ok (.iadd, 1) := by decide +kernel
theorem dX5_does_151 : decode cX5_does 151 = .ok (.iaload, 1) := by decide +kernel
theorem dX5_does_152 : decode cX5_does 152 = .ok (.iload 6, 2) := by decide +kernel
theorem dX5_does_154 : decode cX5_does 154 = .ok (.if_icmp .ne 7, 3) := by decide +kernel
theorem dX5_does_157 : decode cX5_does 157 = .ok (.iconst 1, 1) := by decide +kernel
theorem dX5_does_158 : decode cX5_does 158 = .ok (.goto 4, 3) := by decide +kernel
theorem dX5_does_161 : decode cX5_does 161 = .ok (.iconst 0, 1) := by decide +kernel
theorem dX5_does_162 : decode cX5_does 162 = .ok (.ireturn, 1) := by decide +kernel
theorem dX5_does_163 : decode cX5_does 163 = .ok (.iload 5, 2) := by decide +kernel
theorem dX5_does_165 : decode cX5_does 165 = .ok (.ifCond .eq 23, 3) := by decide +kernel
theorem dX5_does_168 : decode cX5_does 168 = .ok (.aload_n 0, 1) := by decide +kernel
theorem dX5_does_169 : decode cX5_does 169 = .ok (.getfield 22, 3) := by decide +kernel
theorem dX5_does_172 : decode cX5_does 172 = .ok (.bipush 6, 2) := by decide +kernel
theorem dX5_does_174 : decode cX5_does 174 = .ok (.iload_n 2, 1) := by decide +kernel
theorem dX5_does_175 : decode cX5_does 175 = .ok (.imul, 1) := by decide +kernel
theorem dX5_does_176 : decode cX5_does 176 = .ok (.iconst 5, 1) := by decide +kernel
theorem dX5_does_177 : decode cX5_does 177 = .ok (.iadd, 1) := by decide +kernel
theorem dX5_does_178 : decode cX5_does 178 = .ok (.iaload, 1) := by decide +kernel
theorem dX5_does_179 : decode cX5_does 179 = .ok (.iload 6, 2) := by decide +kernel
theorem dX5_does_181 : decode cX5_does 181 = .ok (.if_icmp .ne 7, 3) := by decide +kernel
theorem dX5_does_184 : decode cX5_does 184 = .ok (.iconst 1, 1) := by decide +kernel
theorem dX5_does_185 : decode cX5_does 185 = .ok (.goto 4, 3) := by decide +kernel
theorem dX5_does_188 : decode cX5_does 188 = .ok (.iconst 0, 1) := by decide +kernel
theorem dX5_does_189 : decode cX5_does 189 = .ok (.ireturn, 1) := by decide +kernel
theorem dX5_does_190 : decode cX5_does 190 = .ok (.iconst 0, 1) := by decide +kernel
theorem dX5_does_191 : decode cX5_does 191 = .ok (.istore 7, 2) := by decide +kernel
theorem dX5_does_193 : decode cX5_does 193 = .ok (.iconst 0, 1) := by decide +kernel
theorem dX5_does_194 : decode cX5_does 194 = .ok (.istore 8, 2) := by decide +kernel
theorem dX5_does_196 : decode cX5_does 196 = .ok (.iload 8, 2) := by decide +kernel
theorem dX5_does_198 : decode cX5_does 198 = .ok (.aload_n 0, 1) := by decide +kernel
theorem dX5_does_199 : decode cX5_does 199 = .ok (.getfield 22, 3) := by decide +kernel
theorem dX5_does_202 : decode cX5_does 202 = .ok (.bipush 24, 2) := by decide +kernel
theorem dX5_does_204 : decode cX5_does 204 = .ok (.iaload, 1) := by decide +kernel
theorem dX5_does_205 : decode cX5_does 205 = .ok (.if_icmp .ge 53, 3) := by decide +kernel
theorem dX5_does_208 : decode cX5_does 208 = .ok (.bipush 100, 2) := by decide +kernel
theorem dX5_does_210 : decode cX5_does 210 = .ok (.iload_n 2, 1) := by decide +kernel
theorem dX5_does_211 : decode cX5_does 211 = .ok (.imul, 1) := by decide +kernel
theorem dX5_does_212 : decode cX5_does 212 = .ok (.iload 6, 2) := by decide +kernel
theorem dX5_does_214 : decode cX5_does 214 = .ok (.iadd, 1) := by decide +kernel
theorem dX5_does_215 : decode cX5_does 215 = .ok (.invokestatic 139, 3) := by decide +kernel
theorem dX5_does_218 : decode cX5_does 218 = .ok (.ifCond .eq 40, 3) := by decide +kernel
theorem dX5_does_221 : decode cX5_does 221 = .ok (.iload 7, 2) := by decide +kernel
theorem dX5_does_223 : decode cX5_does 223 = .ok (.ifCond .ne 22, 3) := by decide +kernel
theorem dX5_does_226 : decode cX5_does 226 = .ok (.aload_n 0, 1) := by decide +kernel
theorem dX5_does_227 : decode cX5_does 227 = .ok (.getfield 22, 3) := by decide +kernel
theorem dX5_does_230 : decode cX5_does 230 = .ok (.iload 8, 2) := by decide +kernel
theorem dX5_does_232 : decode cX5_does 232 = .ok (.bipush 100, 2) := by decide +kernel
theorem dX5_does_234 : decode cX5_does 234 = .ok (.iload_n 2, 1) := by decide +kernel
theorem dX5_does_235 : decode cX5_does 235 = .ok (.imul, 1) := by decide +kernel
theorem dX5_does_236 : decode cX5_does 236 = .ok (.iload 6, 2) := by decide +kernel
theorem dX5_does_238 : decode cX5_does 238 = .ok (.iadd, 1) := by decide +kernel
theorem dX5_does_239 : decode cX5_does 239 = .ok (.invokestatic 65, 3) := by decide +kernel
theorem dX5_does_242 : decode cX5_does 242 = .ok (.ifCond .le 7, 3) := by decide +kernel
theorem dX5_does_245 : decode cX5_does 245 = .ok (.iconst 1, 1) := by decide +kernel
theorem dX5_does_246 : decode cX5_does 246 = .ok (.goto 4, 3) := by decide +kernel
theorem dX5_does_249 : decode cX5_does 249 = .ok (.iconst 0, 1) := by decide +kernel
theorem dX5_does_250 : decode cX5_does 250 = .ok (.istore 7, 2) := by decide +kernel
theorem dX5_does_252 : decode cX5_does 252 = .ok (.iinc 8 1, 3) := by decide +kernel
theorem dX5_does_255 : decode cX5_does 255 = .ok (.goto (-59), 3) := by decide +kernel
theorem dX5_does_258 : decode cX5_does 258 = .ok (.iload 7, 2) := by decide +kernel
theorem dX5_does_260 : decode cX5_does 260 = .ok (.ireturn, 1) := by decide +kernel
theorem dX5_does_261 : decode cX5_does 261 = .ok (.iload 5, 2) := by decide +kernel
theorem dX5_does_263 : decode cX5_does 263 = .ok (.ifCond .eq 35, 3) := by decide +kernel
theorem dX5_does_266 : decode cX5_does 266 = .ok (.iload 6, 2) := by decide +kernel
theorem dX5_does_268 : decode cX5_does 268 = .ok (.iconst 2, 1) := by decide +kernel
theorem dX5_does_269 : decode cX5_does 269 = .ok (.if_icmp .ge 29, 3) := by decide +kernel
theorem dX5_does_272 : decode cX5_does 272 = .ok (.aload_n 0, 1) := by decide +kernel
theorem dX5_does_273 : decode cX5_does 273 = .ok (.getfield 22, 3) := by decide +kernel
theorem dX5_does_276 : decode cX5_does 276 = .ok (.iload_n 2, 1) := by decide +kernel
theorem dX5_does_277 : decode cX5_does 277 = .ok (.invokestatic 127, 3) := by decide +kernel
theorem dX5_does_280 : decode cX5_does 280 = .ok (.iload 6, 2) := by decide +kernel
theorem dX5_does_282 : decode cX5_does 282 = .ok (.iconst 1, 1) := by decide +kernel
theorem dX5_does_283 : decode cX5_does 283 = .ok (.if_icmp .ne 7, 3) := by decide +kernel
theorem dX5_does_286 : decode cX5_does 286 = .ok (.iconst 1, 1) := by decide +kernel
theorem dX5_does_287 : decode cX5_does 287 = .ok (.goto 4, 3) := by decide +kernel
theorem dX5_does_290 : decode cX5_does 290 = .ok (.iconst 0, 1) := by decide +kernel
theorem dX5_does_291 : decode cX5_does 291 = .ok (.if_icmp .ne 7, 3) := by decide +kernel
theorem dX5_does_294 : decode cX5_does 294 = .ok (.iconst 1, 1) := by decide +kernel
theorem dX5_does_295 : decode cX5_does 295 = .ok (.goto 4, 3) := by decide +kernel
theorem dX5_does_298 : decode cX5_does 298 = .ok (.iconst 0, 1) := by decide +kernel
theorem dX5_does_299 : decode cX5_does 299 = .ok (.ireturn, 1) := by decide +kernel
theorem dX5_does_300 : decode cX5_does 300 = .ok (.iload 6, 2) := by decide +kernel
theorem dX5_does_302 : decode cX5_does 302 = .ok (.ifCond .ne 15, 3) := by decide +kernel
theorem dX5_does_305 : decode cX5_does 305 = .ok (.iload_n 2, 1) := by decide +kernel
theorem dX5_does_306 : decode cX5_does 306 = .ok (.i2l, 1) := by decide +kernel
theorem dX5_does_307 : decode cX5_does 307 = .ok (.lconst 1, 1) := by decide +kernel
theorem dX5_does_308 : decode cX5_does 308 = .ok (.ldc2_w 150, 3) := by decide +kernel
theorem dX5_does_311 : decode cX5_does 311 = .ok (.invokestatic 57, 3) := by decide +kernel
theorem dX5_does_314 : decode cX5_does 314 = .ok (.ifCond .ne 5, 3) := by decide +kernel
theorem dX5_does_317 : decode cX5_does 317 = .ok (.iconst 0, 1) := by decide +kernel
theorem dX5_does_318 : decode cX5_does 318 = .ok (.ireturn, 1) := by decide +kernel
theorem dX5_does_319 : decode cX5_does 319 = .ok (.aload_n 0, 1) := by decide +kernel
theorem dX5_does_320 : decode cX5_does 320 = .ok (.getfield 22, 3) := by decide +kernel
theorem dX5_does_323 : decode cX5_does 323 = .ok (.bipush 25, 2) := by decide +kernel
theorem dX5_does_325 : decode cX5_does 325 = .ok (.iload_n 2, 1) := by decide +kernel
theorem dX5_does_326 : decode cX5_does 326 = .ok (.iastore, 1) := by decide +kernel
theorem dX5_does_327 : decode cX5_does 327 = .ok (.iconst 1, 1) := by decide +kernel
theorem dX5_does_328 : decode cX5_does 328 = .ok (.ireturn, 1) := by decide +kernel
theorem dX5_does_329 : decode cX5_does 329 = .ok (.iconst 0, 1) := by decide +kernel
theorem dX5_does_330 : decode cX5_does 330 = .ok (.ireturn, 1) := by decide +kernel
theorem dX5_longPower_0 : decode cX5_longPower 0 = .ok (.lconst 1, 1) := by decide +kernel
theorem dX5_longPower_1 : decode cX5_longPower 1 = .ok (.lstore_n 3, 1) := by decide +kernel
theorem dX5_longPower_2 : decode cX5_longPower 2 = .ok (.iconst 0, 1) := by decide +kernel
theorem dX5_longPower_3 : decode cX5_longPower 3 = .ok (.istore 5, 2) := by decide +kernel
theorem dX5_longPower_5 : decode cX5_longPower 5 = .ok (.iload 5, 2) := by decide +kernel
theorem dX5_longPower_7 : decode cX5_longPower 7 = .ok (.iload_n 2, 1) := by decide +kernel
theorem dX5_longPower_8 : decode cX5_longPower 8 = .ok (.if_icmp .ge 13, 3) := by decide +kernel
theorem dX5_longPower_11 : decode cX5_longPower 11 = .ok (.lload_n 3, 1) := by decide +kernel
theorem dX5_longPower_12 : decode cX5_longPower 12 = .ok (.lload_n 0, 1) := by decide +kernel
theorem dX5_longPower_13 : decode cX5_longPower 13 = .ok (.lmul, 1) := by decide +kernel
theorem dX5_longPower_14 : decode cX5_longPower 14 = .ok (.lstore_n 3, 1) := by decide +kernel
theorem dX5_longPower_15 : decode cX5_longPower 15 = .ok (.iinc 5 1, 3) := by decide +kernel
theorem dX5_longPower_18 : decode cX5_longPower 18 = .ok (.goto (-13), 3) := by decide +kernel
theorem dX5_longPower_21 : decode cX5_longPower 21 = .ok (.lload_n 3, 1) := by decide +kernel
theorem dX5_longPower_22 : decode cX5_longPower 22 = .ok (.lreturn, 1) := by decide +kernel
theorem dX5_judge_0 : decode cX5_judge 0 = .ok (.aload_n 0, 1) := by decide +kernel
theorem dX5_judge_1 : decode cX5_judge 1 = .ok (.iconst 0, 1) := by decide +kernel
theorem dX5_judge_2 : decode cX5_judge 2 = .ok (.putfield 51, 3) := by decide +kernel
theorem dX5_judge_5 : decode cX5_judge 5 = .ok (.iload_n 1, 1) := by decide +kernel
theorem dX5_judge_6 : decode cX5_judge 6 = .ok (.i2l, 1) := by decide +kernel
theorem dX5_judge_7 : decode cX5_judge 7 = .ok (.lconst 1, 1) := by decide +kernel
theorem dX5_judge_8 : decode cX5_judge 8 = .ok (.ldc2_w 159, 3) := by decide +kernel
theorem dX5_judge_11 : decode cX5_judge 11 = .ok (.invokestatic 57, 3) := by decide +kernel
theorem dX5_judge_14 : decode cX5_judge 14 = .ok (.ifCond .eq 20, 3) := by decide +kernel
theorem dX5_judge_17 : decode cX5_judge 17 = .ok (.lload_n 2, 1) := by decide +kernel
theorem dX5_judge_18 : decode cX5_judge 18 = .ok (.lconst 0, 1) := by decide +kernel
theorem dX5_judge_19 : decode cX5_judge 19 = .ok (.ldc2_w 161, 3) := by decide +kernel
theorem dX5_judge_22 : decode cX5_judge 22 = .ok (.iload_n 1, 1) := by decide +kernel
theorem dX5_judge_23 : decode cX5_judge 23 = .ok (.invokestatic 163, 3) := by decide +kernel
theorem dX5_judge_26 : decode cX5_judge 26 = .ok (.lconst 1, 1) := by decide +kernel
theorem dX5_judge_27 : decode cX5_judge 27 = .ok (.lsub, 1) := by decide +kernel
theorem dX5_judge_28 : decode cX5_judge 28 = .ok (.invokestatic 57, 3) := by decide +kernel
theorem dX5_judge_31 : decode cX5_judge 31 = .ok (.ifCond .ne 6, 3) := by decide +kernel
theorem dX5_judge_34 : decode cX5_judge 34 = .ok (.bipush (-2), 2) := by decide +kernel
theorem dX5_judge_36 : decode cX5_judge 36 = .ok (.ireturn, 1) := by decide +kernel
theorem dX5_judge_37 : decode cX5_judge 37 = .ok (.aload_n 0, 1) := by decide +kernel
theorem dX5_judge_38 : decode cX5_judge 38 = .ok (.getfield 19, 3) := by decide +kernel
theorem dX5_judge_41 : decode cX5_judge 41 = .ok (.aload_n 0, 1) := by decide +kernel
theorem dX5_judge_42 : decode cX5_judge 42 = .ok (.getfield 22, 3) := by decide +kernel
theorem dX5_judge_45 : decode cX5_judge 45 = .ok (.invokestatic 116, 3) := by decide +kernel
theorem dX5_judge_48 : decode cX5_judge 48 = .ok (.iconst 0, 1) := by decide +kernel
theorem dX5_judge_49 : decode cX5_judge 49 = .ok (.istore 4, 2) := by decide +kernel
theorem dX5_judge_51 : decode cX5_judge 51 = .ok (.iload 4, 2) := by decide +kernel
theorem dX5_judge_53 : decode cX5_judge 53 = .ok (.iload_n 1, 1) := by decide +kernel
theorem dX5_judge_54 : decode cX5_judge 54 = .ok (.if_icmp .ge 67, 3) := by decide +kernel
theorem dX5_judge_57 : decode cX5_judge 57 = .ok (.lload_n 2, 1) := by decide +kernel
theorem dX5_judge_58 : decode cX5_judge 58 = .ok (.ldc2_w 161, 3) := by decide +kernel
theorem dX5_judge_61 : decode cX5_judge 61 = .ok (.iload_n 1, 1) := by decide +kernel
theorem dX5_judge_62 : decode cX5_judge 62 = .ok (.iconst 1, 1) := by decide +kernel
theorem dX5_judge_63 : decode cX5_judge 63 = .ok (.isub, 1) := by decide +kernel
theorem dX5_judge_64 : decode cX5_judge 64 = .ok (.iload 4, 2) := by decide +kernel
theorem dX5_judge_66 : decode cX5_judge 66 = .ok (.isub, 1) := by decide +kernel
theorem dX5_judge_67 : decode cX5_judge 67 = .ok (.invokestatic 163, 3) := by decide +kernel
theorem dX5_judge_70 : decode cX5_judge 70 = .ok (.ldiv, 1) := by decide +kernel
theorem dX5_judge_71 : decode cX5_judge 71 = .ok (.ldc2_w 161, 3) := by decide +kernel
theorem dX5_judge_74 : decode cX5_judge 74 = .ok (.lrem, 1) := by decide +kernel
theorem dX5_judge_75 : decode cX5_judge 75 = .ok (.l2i, 1) := by decide +kernel
theorem dX5_judge_76 : decode cX5_judge 76 = .ok (.istore 5, 2) := by decide +kernel
theorem dX5_judge_78 : decode cX5_judge 78 = .ok (.aload_n 0, 1) := by decide +kernel
theorem dX5_judge_79 : decode cX5_judge 79 = .ok (.iload 5, 2) := by decide +kernel
theorem dX5_judge_81 : decode cX5_judge 81 = .ok (.sipush 1000, 3) := by decide +kernel
theorem dX5_judge_84 : decode cX5_judge 84 = .ok (.idiv, 1) := by decide +kernel
theorem dX5_judge_85 : decode cX5_judge 85 = .ok (.iload 5, 2) := by decide +kernel
theorem dX5_judge_87 : decode cX5_judge 87 = .ok (.bipush 100, 2) := by decide +kernel
theorem dX5_judge_89 : decode cX5_judge 89 = .ok (.idiv, 1) := by decide +kernel
theorem dX5_judge_90 : decode cX5_judge 90 = .ok (.bipush 10, 2) := by decide +kernel
theorem dX5_judge_92 : decode cX5_judge 92 = .ok (.irem, 1) := by decide +kernel
theorem dX5_judge_93 : decode cX5_judge 93 = .ok (.iload 5, 2) := by decide +kernel
theorem dX5_judge_95 : decode cX5_judge 95 = .ok (.bipush 10, 2) := by decide +kernel
theorem dX5_judge_97 : decode cX5_judge 97 = .ok (.idiv, 1) := by decide +kernel
theorem dX5_judge_98 : decode cX5_judge 98 = .ok (.bipush 10, 2) := by decide +kernel
theorem dX5_judge_100 : decode cX5_judge 100 = .ok (.irem, 1) := by decide +kernel
theorem dX5_judge_101 : decode cX5_judge 101 = .ok (.iload 5, 2) := by decide +kernel
theorem dX5_judge_103 : decode cX5_judge 103 = .ok (.bipush 10, 2) := by decide +kernel
theorem dX5_judge_105 : decode cX5_judge 105 = .ok (.irem, 1) := by decide +kernel
theorem dX5_judge_106 : decode cX5_judge 106 = .ok (.invokevirtual 167, 3) := by decide +kernel
theorem dX5_judge_109 : decode cX5_judge 109 = .ok (.ifCond .ne 6, 3) := by decide +kernel
theorem dX5_judge_112 : decode cX5_judge 112 = .ok (.iload 4, 2) := by decide +kernel
theorem dX5_judge_114 : decode cX5_judge 114 = .ok (.ireturn, 1) := by decide +kernel
theorem dX5_judge_115 : decode cX5_judge 115 = .ok (.iinc 4 1, 3) := by decide +kernel
theorem dX5_judge_118 : decode cX5_judge 118 = .ok (.goto (-67), 3) := by decide +kernel
theorem dX5_judge_121 : decode cX5_judge 121 = .ok (.bipush (-9), 2) := by decide +kernel
theorem dX5_judge_123 : decode cX5_judge 123 = .ok (.ireturn, 1) := by decide +kernel
theorem dX5_see_0 : decode cX5_see 0 = .ok (.aload_n 0, 1) := by decide +kernel
theorem dX5_see_1 : decode cX5_see 1 = .ok (.iconst 0, 1) := by decide +kernel
theorem dX5_see_2 : decode cX5_see 2 = .ok (.putfield 51, 3) := by decide +kernel
theorem dX5_see_5 : decode cX5_see 5 = .ok (.iload_n 1, 1) := by decide +kernel
theorem dX5_see_6 : decode cX5_see 6 = .ok (.i2l, 1) := by decide +kernel
theorem dX5_see_7 : decode cX5_see 7 = .ok (.lconst 0, 1) := by decide +kernel
theorem dX5_see_8 : decode cX5_see 8 = .ok (.ldc2_w 171, 3) := by decide +kernel
theorem dX5_see_11 : decode cX5_see 11 = .ok (.invokestatic 57, 3) := by decide +kernel
theorem dX5_see_14 : decode cX5_see 14 = .ok (.ifCond .ne 5, 3) := by decide +kernel
theorem dX5_see_17 : decode cX5_see 17 = .ok (.iconst (-1), 1) := by decide +kernel
theorem dX5_see_18 : decode cX5_see 18 = .ok (.ireturn, 1) := by decide +kernel
theorem dX5_see_19 : decode cX5_see 19 = .ok (.iload_n 2, 1) := by decide +kernel
theorem dX5_see_20 : decode cX5_see 20 = .ok (.i2l, 1) := by decide +kernel
theorem dX5_see_21 : decode cX5_see 21 = .ok (.lconst 0, 1) := by decide +kernel
theorem dX5_see_22 : decode cX5_see 22 = .ok (.ldc2_w 173, 3) := by decide +kernel
theorem dX5_see_25 : decode cX5_see 25 = .ok (.invokestatic 57, 3) := by decide +kernel
theorem dX5_see_28 : decode cX5_see 28 = .ok (.ifCond .eq 10, 3) := by decide +kernel
theorem dX5_see_31 : decode cX5_see 31 = .ok (.iload_n 3, 1) := by decide +kernel
theorem dX5_see_32 : decode cX5_see 32 = .ok (.invokestatic 139, 3) := by decide +kernel
theorem dX5_see_35 : decode cX5_see 35 = .ok (.ifCond .ne 6, 3) := by decide +kernel
theorem dX5_see_38 : decode cX5_see 38 = .ok (.bipush (-2), 2) := by decide +kernel
theorem dX5_see_40 : decode cX5_see 40 = .ok (.ireturn, 1) := by decide +kernel
theorem dX5_see_41 : decode cX5_see 41 = .ok (.aload_n 0, 1) := by decide +kernel
theorem dX5_see_42 : decode cX5_see 42 = .ok (.getfield 175, 3) := by decide +kernel
theorem dX5_see_45 : decode cX5_see 45 = .ok (.bipush 6, 2) := by decide +kernel
theorem dX5_see_47 : decode cX5_see 47 = .ok (.if_icmp .ne 6, 3) := by decide +kernel
theorem dX5_see_50 : decode cX5_see 50 = .ok (.bipush (-4), 2) := by decide +kernel
theorem dX5_see_52 : decode cX5_see 52 = .ok (.ireturn, 1) := by decide +kernel
theorem dX5_see_53 : decode cX5_see 53 = .ok (.aload_n 0, 1) := by decide +kernel
theorem dX5_see_54 : decode cX5_see 54 = .ok (.getfield 35, 3) := by decide +kernel
theorem dX5_see_57 : decode cX5_see 57 = .ok (.aload_n 0, 1) := by decide +kernel
theorem dX5_see_58 : decode cX5_see 58 = .ok (.getfield 175, 3) := by decide +kernel
theorem dX5_see_61 : decode cX5_see 61 = .ok (.iload_n 1, 1) := by decide +kernel
theorem dX5_see_62 : decode cX5_see 62 = .ok (.iastore, 1) := by decide +kernel
theorem dX5_see_63 : decode cX5_see 63 = .ok (.aload_n 0, 1) := by decide +kernel
theorem dX5_see_64 : decode cX5_see 64 = .ok (.getfield 38, 3) := by decide +kernel
theorem dX5_see_67 : decode cX5_see 67 = .ok (.aload_n 0, 1) := by decide +kernel
theorem dX5_see_68 : decode cX5_see 68 = .ok (.getfield 175, 3) := by decide +kernel
theorem dX5_see_71 : decode cX5_see 71 = .ok (.iload_n 2, 1) := by decide +kernel
theorem dX5_see_72 : decode cX5_see 72 = .ok (.iastore, 1) := by decide +kernel
theorem dX5_see_73 : decode cX5_see 73 = .ok (.aload_n 0, 1) := by decide +kernel
theorem dX5_see_74 : decode cX5_see 74 = .ok (.getfield 41, 3) := by decide +kernel
theorem dX5_see_77 : decode cX5_see 77 = .ok (.aload_n 0, 1) := by decide +kernel
theorem dX5_see_78 : decode cX5_see 78 = .ok (.getfield 175, 3) := by decide +kernel
theorem dX5_see_81 : decode cX5_see 81 = .ok (.iload_n 3, 1) := by decide +kernel
theorem dX5_see_82 : decode cX5_see 82 = .ok (.iastore, 1) := by decide +kernel
theorem dX5_see_83 : decode cX5_see 83 = .ok (.aload_n 0, 1) := by decide +kernel
theorem dX5_see_84 : decode cX5_see 84 = .ok (.dup, 1) := by decide +kernel
theorem dX5_see_85 : decode cX5_see 85 = .ok (.getfield 175, 3) := by decide +kernel
theorem dX5_see_88 : decode cX5_see 88 = .ok (.iconst 1, 1) := by decide +kernel
theorem dX5_see_89 : decode cX5_see 89 = .ok (.iadd, 1) := by decide +kernel
theorem dX5_see_90 : decode cX5_see 90 = .ok (.putfield 175, 3) := by decide +kernel
theorem dX5_see_93 : decode cX5_see 93 = .ok (.aload_n 0, 1) := by decide +kernel
theorem dX5_see_94 : decode cX5_see 94 = .ok (.getfield 175, 3) := by decide +kernel
theorem dX5_see_97 : decode cX5_see 97 = .ok (.ireturn, 1) := by decide +kernel
theorem dX5_unsee_0 : decode cX5_unsee 0 = .ok (.aload_n 0, 1) := by decide +kernel
theorem dX5_unsee_1 : decode cX5_unsee 1 = .ok (.iconst 0, 1) := by decide +kernel
theorem dX5_unsee_2 : decode cX5_unsee 2 = .ok (.putfield 51, 3) := by decide +kernel
theorem dX5_unsee_5 : decode cX5_unsee 5 = .ok (.aload_n 0, 1) := by decide +kernel
theorem dX5_unsee_6 : decode cX5_unsee 6 = .ok (.getfield 175, 3) := by decide +kernel
theorem dX5_unsee_9 : decode cX5_unsee 9 = .ok (.istore_n 1, 1) := by decide +kernel
theorem dX5_unsee_10 : decode cX5_unsee 10 = .ok (.aload_n 0, 1) := by decide +kernel
theorem dX5_unsee_11 : decode cX5_unsee 11 = .ok (.iconst 0, 1) := by decide +kernel
theorem dX5_unsee_12 : decode cX5_unsee 12 = .ok (.putfield 175, 3) := by decide +kernel
theorem dX5_unsee_15 : decode cX5_unsee 15 = .ok (.iload_n 1, 1) := by decide +kernel
theorem dX5_unsee_16 : decode cX5_unsee 16 = .ok (.ireturn, 1) := by decide +kernel
theorem dX5_which_0 : decode cX5_which 0 = .ok (.aload_n 0, 1) := by decide +kernel
theorem dX5_which_1 : decode cX5_which 1 = .ok (.iconst 0, 1) := by decide +kernel
theorem dX5_which_2 : decode cX5_which 2 = .ok (.putfield 51, 3) := by decide +kernel
theorem dX5_which_5 : decode cX5_which 5 = .ok (.iload_n 1, 1) := by decide +kernel
theorem dX5_which_6 : decode cX5_which 6 = .ok (.i2l, 1) := by decide +kernel
theorem dX5_which_7 : decode cX5_which 7 = .ok (.lconst 0, 1) := by decide +kernel
theorem dX5_which_8 : decode cX5_which 8 = .ok (.lconst 1, 1) := by decide +kernel
theorem dX5_which_9 : decode cX5_which 9 = .ok (.invokestatic 57, 3) := by decide +kernel
theorem dX5_which_12 : decode cX5_which 12 = .ok (.ifCond .ne 6, 3) := by decide +kernel
theorem dX5_which_15 : decode cX5_which 15 = .ok (.bipush (-2), 2) := by decide +kernel
theorem dX5_which_17 : decode cX5_which 17 = .ok (.ireturn, 1) := by decide +kernel
theorem dX5_which_18 : decode cX5_which 18 = .ok (.iconst 0, 1) := by decide +kernel
theorem dX5_which_19 : decode cX5_which 19 = .ok (.istore_n 2, 1) := by decide +kernel
theorem dX5_which_20 : decode cX5_which 20 = .ok (.bipush (-9), 2) := by decide +kernel
theorem dX5_which_22 : decode cX5_which 22 = .ok (.istore_n 3, 1) := by decide +kernel
theorem dX5_which_23 : decode cX5_which 23 = .ok (.sipush 250, 3) := by decide +kernel
theorem dX5_which_26 : decode cX5_which 26 = .ok (.istore 4, 2) := by decide +kernel
theorem dX5_which_28 : decode cX5_which 28 = .ok (.iload 4, 2) := by decide +kernel
theorem dX5_which_30 : decode cX5_which 30 = .ok (.ifCond .lt 135, 3) := by decide +kernel
theorem dX5_which_33 : decode cX5_which 33 = .ok (.iconst 1, 1) := by decide +kernel
theorem dX5_which_34 : decode cX5_which 34 = .ok (.istore 5, 2) := by decide +kernel
theorem dX5_which_36 : decode cX5_which 36 = .ok (.iconst 0, 1) := by decide +kernel
theorem dX5_which_37 : decode cX5_which 37 = .ok (.istore 6, 2) := by decide +kernel
theorem dX5_which_39 : decode cX5_which 39 = .ok (.iload 6, 2) := by decide +kernel
theorem dX5_which_41 : decode cX5_which 41 = .ok (.aload_n 0, 1) := by decide +kernel
theorem dX5_which_42 : decode cX5_which 42 = .ok (.getfield 175, 3) := by decide +kernel
theorem dX5_which_45 : decode cX5_which 45 = .ok (.if_icmp .ge 89, 3) := by decide +kernel
theorem dX5_which_48 : decode cX5_which 48 = .ok (.aload_n 0, 1) := by decide +kernel
theorem dX5_which_49 : decode cX5_which 49 = .ok (.getfield 19, 3) := by decide +kernel
theorem dX5_which_52 : decode cX5_which 52 = .ok (.aload_n 0, 1) := by decide +kernel
theorem dX5_which_53 : decode cX5_which 53 = .ok (.getfield 35, 3) := by decide +kernel
theorem dX5_which_56 : decode cX5_which 56 = .ok (.iload 6, 2) := by decide +kernel
theorem dX5_which_58 : decode cX5_which 58 = .ok (.iaload, 1) := by decide +kernel
theorem dX5_which_59 : decode cX5_which 59 = .ok (.invokestatic 75, 3) := by decide +kernel
theorem dX5_which_62 : decode cX5_which 62 = .ok (.ifCond .ne 7, 3) := by decide +kernel
theorem dX5_which_65 : decode cX5_which 65 = .ok (.iconst 1, 1) := by decide +kernel
theorem dX5_which_66 : decode cX5_which 66 = .ok (.goto 4, 3) := by decide +kernel
theorem dX5_which_69 : decode cX5_which 69 = .ok (.iconst 0, 1) := by decide +kernel
theorem dX5_which_70 : decode cX5_which 70 = .ok (.istore 7, 2) := by decide +kernel
theorem dX5_which_72 : decode cX5_which 72 = .ok (.iload 5, 2) := by decide +kernel
theorem dX5_which_74 : decode cX5_which 74 = .ok (.ifCond .eq 51, 3) := by decide +kernel
theorem dX5_which_77 : decode cX5_which 77 = .ok (.iload 7, 2) := by decide +kernel
theorem dX5_which_79 : decode cX5_which 79 = .ok (.ifCond .eq 42, 3) := by decide +kernel
theorem dX5_which_82 : decode cX5_which 82 = .ok (.iload 4, 2) := by decide +kernel
theorem dX5_which_84 : decode cX5_which 84 = .ok (.aload_n 0, 1) := by decide +kernel
theorem dX5_which_85 : decode cX5_which 85 = .ok (.getfield 19, 3) := by decide +kernel
theorem dX5_which_88 : decode cX5_which 88 = .ok (.bipush 6, 2) := by decide +kernel
theorem dX5_which_90 : decode cX5_which 90 = .ok (.aload_n 0, 1) := by decide +kernel
theorem dX5_which_91 : decode cX5_which 91 = .ok (.getfield 35, 3) := by decide +kernel
theorem dX5_which_94 : decode cX5_which 94 = .ok (.iload 6, 2) := by decide +kernel
theorem dX5_which_96 : decode cX5_which 96 = .ok (.iaload, 1) := by decide +kernel
theorem dX5_which_97 : decode cX5_which 97 = .ok (.imul, 1) := by decide +kernel
theorem dX5_which_98 : decode cX5_which 98 = .ok (.iconst 1, 1) := by decide +kernel
theorem dX5_which_99 : decode cX5_which 99 = .ok (.iadd, 1) := by decide +kernel
theorem dX5_which_100 : decode cX5_which 100 = .ok (.iaload, 1) := by decide +kernel
theorem dX5_which_101 : decode cX5_which 101 = .ok (.aload_n 0, 1) := by decide +kernel
theorem dX5_which_102 : decode cX5_which 102 = .ok (.getfield 38, 3) := by decide +kernel
theorem dX5_which_105 : decode cX5_which 105 = .ok (.iload 6, 2) := by decide +kernel
theorem dX5_which_107 : decode cX5_which 107 = .ok (.iaload, 1) := by decide +kernel
theorem dX5_which_108 : decode cX5_which 108 = .ok (.invokestatic 61, 3) := by decide +kernel
theorem dX5_which_111 : decode cX5_which 111 = .ok (.aload_n 0, 1) := by decide +kernel
theorem dX5_which_112 : decode cX5_which 112 = .ok (.getfield 41, 3) := by decide +kernel
theorem dX5_which_115 : decode cX5_which 115 = .ok (.iload 6, 2) := by decide +kernel
theorem dX5_which_117 : decode cX5_which 117 = .ok (.iaload, 1) := by decide +kernel
theorem dX5_which_118 : decode cX5_which 118 = .ok (.if_icmp .ne 7, 3) := by decide +kernel
theorem dX5_which_121 : decode cX5_which 121 = .ok (.iconst 1, 1) := by decide +kernel
theorem dX5_which_122 : decode cX5_which 122 = .ok (.goto 4, 3) := by decide +kernel
theorem dX5_which_125 : decode cX5_which 125 = .ok (.iconst 0, 1) := by decide +kernel
theorem dX5_which_126 : decode cX5_which 126 = .ok (.istore 5, 2) := by decide +kernel
theorem dX5_which_128 : decode cX5_which 128 = .ok (.iinc 6 1, 3) := by decide +kernel
theorem dX5_which_131 : decode cX5_which 131 = .ok (.goto (-92), 3) := by decide +kernel
theorem dX5_which_134 : decode cX5_which 134 = .ok (.iload_n 2, 1) := by decide +kernel
theorem dX5_which_135 : decode cX5_which 135 = .ok (.iload 5, 2) := by decide +kernel
theorem dX5_which_137 : decode cX5_which 137 = .ok (.ifCond .eq 7, 3) := by decide +kernel
theorem dX5_which_140 : decode cX5_which 140 = .ok (.iconst 1, 1) := by decide +kernel
theorem dX5_which_141 : decode cX5_which 141 = .ok (.goto 4, 3) := by decide +kernel
theorem dX5_which_144 : decode cX5_which 144 = .ok (.iconst 0, 1) := by decide +kernel
theorem dX5_which_145 : decode cX5_which 145 = .ok (.iadd, 1) := by decide +kernel
theorem dX5_which_146 : decode cX5_which 146 = .ok (.istore_n 2, 1) := by decide +kernel
theorem dX5_which_147 : decode cX5_which 147 = .ok (.iload 5, 2) := by decide +kernel
theorem dX5_which_149 : decode cX5_which 149 = .ok (.ifCond .eq 8, 3) := by decide +kernel
theorem dX5_which_152 : decode cX5_which 152 = .ok (.iload 4, 2) := by decide +kernel
theorem dX5_which_154 : decode cX5_which 154 = .ok (.goto 4, 3) := by decide +kernel
theorem dX5_which_157 : decode cX5_which 157 = .ok (.iload_n 3, 1) := by decide +kernel
theorem dX5_which_158 : decode cX5_which 158 = .ok (.istore_n 3, 1) := by decide +kernel
theorem dX5_which_159 : decode cX5_which 159 = .ok (.iinc 4 (-1), 3) := by decide +kernel
theorem dX5_which_162 : decode cX5_which 162 = .ok (.goto (-134), 3) := by decide +kernel
theorem dX5_which_165 : decode cX5_which 165 = .ok (.iload_n 1, 1) := by decide +kernel
theorem dX5_which_166 : decode cX5_which 166 = .ok (.ifCond .ne 7, 3) := by decide +kernel
theorem dX5_which_169 : decode cX5_which 169 = .ok (.iload_n 2, 1) := by decide +kernel
theorem dX5_which_170 : decode cX5_which 170 = .ok (.goto 4, 3) := by decide +kernel
theorem dX5_which_173 : decode cX5_which 173 = .ok (.iload_n 3, 1) := by decide +kernel
theorem dX5_which_174 : decode cX5_which 174 = .ok (.ireturn, 1) := by decide +kernel
theorem dX5_divisor_0 : decode cX5_divisor 0 = .ok (.iload_n 0, 1) := by decide +kernel
theorem dX5_divisor_1 : decode cX5_divisor 1 = .ok (.ifCond .ge 8, 3) := by decide +kernel
theorem dX5_divisor_4 : decode cX5_divisor 4 = .ok (.iload_n 0, 1) := by decide +kernel
theorem dX5_divisor_5 : decode cX5_divisor 5 = .ok (.ineg, 1) := by decide +kernel
theorem dX5_divisor_6 : decode cX5_divisor 6 = .ok (.goto 4, 3) := by decide +kernel
theorem dX5_divisor_9 : decode cX5_divisor 9 = .ok (.iload_n 0, 1) := by decide +kernel
theorem dX5_divisor_10 : decode cX5_divisor 10 = .ok (.istore_n 2, 1) := by decide +kernel
theorem dX5_divisor_11 : decode cX5_divisor 11 = .ok (.iload_n 1, 1) := by decide +kernel
theorem dX5_divisor_12 : decode cX5_divisor 12 = .ok (.istore_n 3, 1) := by decide +kernel
theorem dX5_divisor_13 : decode cX5_divisor 13 = .ok (.iload_n 3, 1) := by decide +kernel
theorem dX5_divisor_14 : decode cX5_divisor 14 = .ok (.ifCond .eq 16, 3) := by decide +kernel
theorem dX5_divisor_17 : decode cX5_divisor 17 = .ok (.iload_n 2, 1) := by decide +kernel
theorem dX5_divisor_18 : decode cX5_divisor 18 = .ok (.iload_n 3, 1) := by decide +kernel
theorem dX5_divisor_19 : decode cX5_divisor 19 = .ok (.irem, 1) := by decide +kernel
theorem dX5_divisor_20 : decode cX5_divisor 20 = .ok (.istore 4, 2) := by decide +kernel
theorem dX5_divisor_22 : decode cX5_divisor 22 = .ok (.iload_n 3, 1) := by decide +kernel
theorem dX5_divisor_23 : decode cX5_divisor 23 = .ok (.istore_n 2, 1) := by decide +kernel
theorem dX5_divisor_24 : decode cX5_divisor 24 = .ok (.iload 4, 2) := by decide +kernel
theorem dX5_divisor_26 : decode cX5_divisor 26 = .ok (.istore_n 3, 1) := by decide +kernel
theorem dX5_divisor_27 : decode cX5_divisor 27 = .ok (.goto (-14), 3) := by decide +kernel
theorem dX5_divisor_30 : decode cX5_divisor 30 = .ok (.iload_n 2, 1) := by decide +kernel
theorem dX5_divisor_31 : decode cX5_divisor 31 = .ok (.ireturn, 1) := by decide +kernel
theorem dX5_fraction_0 : decode cX5_fraction 0 = .ok (.iload_n 0, 1) := by decide +kernel
theorem dX5_fraction_1 : decode cX5_fraction 1 = .ok (.iload_n 1, 1) := by decide +kernel
theorem dX5_fraction_2 : decode cX5_fraction 2 = .ok (.invokestatic 178, 3) := by decide +kernel
theorem dX5_fraction_5 : decode cX5_fraction 5 = .ok (.istore_n 3, 1) := by decide +kernel
theorem dX5_fraction_6 : decode cX5_fraction 6 = .ok (.iload_n 2, 1) := by decide +kernel
theorem dX5_fraction_7 : decode cX5_fraction 7 = .ok (.ifCond .eq 9, 3) := by decide +kernel
theorem dX5_fraction_10 : decode cX5_fraction 10 = .ok (.iload_n 0, 1) := by decide +kernel
theorem dX5_fraction_11 : decode cX5_fraction 11 = .ok (.iload_n 3, 1) := by decide +kernel
theorem dX5_fraction_12 : decode cX5_fraction 12 = .ok (.idiv, 1) := by decide +kernel
theorem dX5_fraction_13 : decode cX5_fraction 13 = .ok (.goto 6, 3) := by decide +kernel
theorem dX5_fraction_16 : decode cX5_fraction 16 = .ok (.iload_n 1, 1) := by decide +kernel
theorem dX5_fraction_17 : decode cX5_fraction 17 = .ok (.iload_n 3, 1) := by decide +kernel
theorem dX5_fraction_18 : decode cX5_fraction 18 = .ok (.idiv, 1) := by decide +kernel
theorem dX5_fraction_19 : decode cX5_fraction 19 = .ok (.ireturn, 1) := by decide +kernel
theorem dX5_factorial_0 : decode cX5_factorial 0 = .ok (.iconst 1, 1) := by decide +kernel
theorem dX5_factorial_1 : decode cX5_factorial 1 = .ok (.istore_n 1, 1) := by decide +kernel
theorem dX5_factorial_2 : decode cX5_factorial 2 = .ok (.iconst 2, 1) := by decide +kernel
theorem dX5_factorial_3 : decode cX5_factorial 3 = .ok (.istore_n 2, 1) := by decide +kernel
theorem dX5_factorial_4 : decode cX5_factorial 4 = .ok (.iload_n 2, 1) := by decide +kernel
theorem dX5_factorial_5 : decode cX5_factorial 5 = .ok (.iload_n 0, 1) := by decide +kernel
theorem dX5_factorial_6 : decode cX5_factorial 6 = .ok (.if_icmp .gt 13, 3) := by decide +kernel
theorem dX5_factorial_9 : decode cX5_factorial 9 = .ok (.iload_n 1, 1) := by decide +kernel
theorem dX5_factorial_10 : decode cX5_factorial 10 = .ok (.iload_n 2, 1) := by decide +kernel
theorem dX5_factorial_11 : decode cX5_factorial 11 = .ok (.imul, 1) := by decide +kernel
theorem dX5_factorial_12 : decode cX5_factorial 12 = .ok (.istore_n 1, 1) := by decide +kernel
theorem dX5_factorial_13 : decode cX5_factorial 13 = .ok (.iinc 2 1, 3) := by decide +kernel
theorem dX5_factorial_16 : decode cX5_factorial 16 = .ok (.goto (-12), 3) := by decide +kernel
theorem dX5_factorial_19 : decode cX5_factorial 19 = .ok (.iload_n 1, 1) := by decide +kernel
theorem dX5_factorial_20 : decode cX5_factorial 20 = .ok (.ireturn, 1) := by decide +kernel
theorem dX5_share_0 : decode cX5_share 0 = .ok (.aload_n 0, 1) := by decide +kernel
theorem dX5_share_1 : decode cX5_share 1 = .ok (.iconst 0, 1) := by decide +kernel
theorem dX5_share_2 : decode cX5_share 2 = .ok (.putfield 51, 3) := by decide +kernel
theorem dX5_share_5 : decode cX5_share 5 = .ok (.aload_n 0, 1) := by decide +kernel
theorem dX5_share_6 : decode cX5_share 6 = .ok (.getfield 19, 3) := by decide +kernel
theorem dX5_share_9 : decode cX5_share 9 = .ok (.iload_n 1, 1) := by decide +kernel
theorem dX5_share_10 : decode cX5_share 10 = .ok (.invokestatic 75, 3) := by decide +kernel
theorem dX5_share_13 : decode cX5_share 13 = .ok (.ifCond .eq 5, 3) := by decide +kernel
theorem dX5_share_16 : decode cX5_share 16 = .ok (.iconst (-1), 1) := by decide +kernel
theorem dX5_share_17 : decode cX5_share 17 = .ok (.ireturn, 1) := by decide +kernel
theorem dX5_share_18 : decode cX5_share 18 = .ok (.aload_n 0, 1) := by decide +kernel
theorem dX5_share_19 : decode cX5_share 19 = .ok (.getfield 19, 3) := by decide +kernel
theorem dX5_share_22 : decode cX5_share 22 = .ok (.bipush 24, 2) := by decide +kernel
theorem dX5_share_24 : decode cX5_share 24 = .ok (.iaload, 1) := by decide +kernel
theorem dX5_share_25 : decode cX5_share 25 = .ok (.istore_n 3, 1) := by decide +kernel
theorem dX5_share_26 : decode cX5_share 26 = .ok (.iconst 0, 1) := by decide +kernel
theorem dX5_share_27 : decode cX5_share 27 = .ok (.istore 4, 2) := by decide +kernel
theorem dX5_share_29 : decode cX5_share 29 = .ok (.iconst 0, 1) := by decide +kernel
theorem dX5_share_30 : decode cX5_share 30 = .ok (.istore 5, 2) := by decide +kernel
theorem dX5_share_32 : decode cX5_share 32 = .ok (.iload 5, 2) := by decide +kernel
theorem dX5_share_34 : decode cX5_share 34 = .ok (.iconst 1, 1) := by decide +kernel
theorem dX5_share_35 : decode cX5_share 35 = .ok (.iload_n 3, 1) := by decide +kernel
theorem dX5_share_36 : decode cX5_share 36 = .ok (.ishl, 1) := by decide +kernel
theorem dX5_share_37 : decode cX5_share 37 = .ok (.if_icmp .ge 63, 3) := by decide +kernel
theorem dX5_share_40 : decode cX5_share 40 = .ok (.iload 5, 2) := by decide +kernel
theorem dX5_share_42 : decode cX5_share 42 = .ok (.iload_n 1, 1) := by decide +kernel
theorem dX5_share_43 : decode cX5_share 43 = .ok (.invokestatic 152, 3) := by decide +kernel
theorem dX5_share_46 : decode cX5_share 46 = .ok (.ifCond .ne 48, 3) := by decide +kernel
theorem dX5_share_49 : decode cX5_share 49 = .ok (.iload 5, 2) := by decide +kernel
theorem dX5_share_51 : decode cX5_share 51 = .ok (.invokestatic 181, 3) := by decide +kernel
theorem dX5_share_54 : decode cX5_share 54 = .ok (.istore 6, 2) := by decide +kernel
theorem dX5_share_56 : decode cX5_share 56 = .ok (.iload 4, 2) := by decide +kernel
theorem dX5_share_58 : decode cX5_share 58 = .ok (.iload 6, 2) := by decide +kernel
theorem dX5_share_60 : decode cX5_share 60 = .ok (.invokestatic 184, 3) := by decide +kernel
theorem dX5_share_63 : decode cX5_share 63 = .ok (.iload_n 3, 1) := by decide +kernel
theorem dX5_share_64 : decode cX5_share 64 = .ok (.iconst 1, 1) := by decide +kernel
theorem dX5_share_65 : decode cX5_share 65 = .ok (.isub, 1) := by decide +kernel
theorem dX5_share_66 : decode cX5_share 66 = .ok (.iload 6, 2) := by decide +kernel
theorem dX5_share_68 : decode cX5_share 68 = .ok (.isub, 1) := by decide +kernel
theorem dX5_share_69 : decode cX5_share 69 = .ok (.invokestatic 184, 3) := by decide +kernel
theorem dX5_share_72 : decode cX5_share 72 = .ok (.imul, 1) := by decide +kernel
theorem dX5_share_73 : decode cX5_share 73 = .ok (.aload_n 0, 1) := by decide +kernel
theorem dX5_share_74 : decode cX5_share 74 = .ok (.iload 5, 2) := by decide +kernel
theorem dX5_share_76 : decode cX5_share 76 = .ok (.iconst 1, 1) := by decide +kernel
theorem dX5_share_77 : decode cX5_share 77 = .ok (.iload_n 1, 1) := by decide +kernel
theorem dX5_share_78 : decode cX5_share 78 = .ok (.ishl, 1) := by decide +kernel
theorem dX5_share_79 : decode cX5_share 79 = .ok (.ior, 1) := by decide +kernel
theorem dX5_share_80 : decode cX5_share 80 = .ok (.invokevirtual 156, 3) := by decide +kernel
theorem dX5_share_83 : decode cX5_share 83 = .ok (.aload_n 0, 1) := by decide +kernel
theorem dX5_share_84 : decode cX5_share 84 = .ok (.iload 5, 2) := by decide +kernel
theorem dX5_share_86 : decode cX5_share 86 = .ok (.invokevirtual 156, 3) := by decide +kernel
theorem dX5_share_89 : decode cX5_share 89 = .ok (.isub, 1) := by decide +kernel
theorem dX5_share_90 : decode cX5_share 90 = .ok (.imul, 1) := by decide +kernel
theorem dX5_share_91 : decode cX5_share 91 = .ok (.iadd, 1) := by decide +kernel
theorem dX5_share_92 : decode cX5_share 92 = .ok (.istore 4, 2) := by decide +kernel
theorem dX5_share_94 : decode cX5_share 94 = .ok (.iinc 5 1, 3) := by decide +kernel
theorem dX5_share_97 : decode cX5_share 97 = .ok (.goto (-65), 3) := by decide +kernel
theorem dX5_share_100 : decode cX5_share 100 = .ok (.iload 4, 2) := by decide +kernel
theorem dX5_share_102 : decode cX5_share 102 = .ok (.iload_n 3, 1) := by decide +kernel
theorem dX5_share_103 : decode cX5_share 103 = .ok (.invokestatic 184, 3) := by decide +kernel
theorem dX5_share_106 : decode cX5_share 106 = .ok (.iload_n 2, 1) := by decide +kernel
theorem dX5_share_107 : decode cX5_share 107 = .ok (.invokestatic 187, 3) := by decide +kernel
theorem dX5_share_110 : decode cX5_share 110 = .ok (.ireturn, 1) := by decide +kernel
theorem dX5_guess_0 : decode cX5_guess 0 = .ok (.aload_n 0, 1) := by decide +kernel
theorem dX5_guess_1 : decode cX5_guess 1 = .ok (.iconst 0, 1) := by decide +kernel
theorem dX5_guess_2 : decode cX5_guess 2 = .ok (.putfield 51, 3) := by decide +kernel
theorem dX5_guess_5 : decode cX5_guess 5 = .ok (.aload_n 0, 1) := by decide +kernel
theorem dX5_guess_6 : decode cX5_guess 6 = .ok (.getfield 19, 3) := by decide +kernel
theorem dX5_guess_9 : decode cX5_guess 9 = .ok (.iload_n 1, 1) := by decide +kernel
theorem dX5_guess_10 : decode cX5_guess 10 = .ok (.invokestatic 75, 3) := by decide +kernel
theorem dX5_guess_13 : decode cX5_guess 13 = .ok (.ifCond .eq 5, 3) := by decide +kernel
theorem dX5_guess_16 : decode cX5_guess 16 = .ok (.iconst (-1), 1) := by decide +kernel
theorem dX5_guess_17 : decode cX5_guess 17 = .ok (.ireturn, 1) := by decide +kernel
theorem dX5_guess_18 : decode cX5_guess 18 = .ok (.iload_n 2, 1) := by decide +kernel
theorem dX5_guess_19 : decode cX5_guess 19 = .ok (.i2l, 1) := by decide +kernel
theorem dX5_guess_20 : decode cX5_guess 20 = .ok (.lconst 0, 1) := by decide +kernel
theorem dX5_guess_21 : decode cX5_guess 21 = .ok (.ldc2_w 171, 3) := by decide +kernel
theorem dX5_guess_24 : decode cX5_guess 24 = .ok (.invokestatic 57, 3) := by decide +kernel
theorem dX5_guess_27 : decode cX5_guess 27 = .ok (.ifCond .ne 6, 3) := by decide +kernel
theorem dX5_guess_30 : decode cX5_guess 30 = .ok (.bipush (-2), 2) := by decide +kernel
theorem dX5_guess_32 : decode cX5_guess 32 = .ok (.ireturn, 1) := by decide +kernel
theorem dX5_guess_33 : decode cX5_guess 33 = .ok (.sipush 251, 3) := by decide +kernel
theorem dX5_guess_36 : decode cX5_guess 36 = .ok (.iload_n 2, 1) := by decide +kernel
theorem dX5_guess_37 : decode cX5_guess 37 = .ok (.invokestatic 191, 3) := by decide +kernel
theorem dX5_guess_40 : decode cX5_guess 40 = .ok (.istore 4, 2) := by decide +kernel
theorem dX5_guess_42 : decode cX5_guess 42 = .ok (.iload 4, 2) := by decide +kernel
theorem dX5_guess_44 : decode cX5_guess 44 = .ok (.sipush 251, 3) := by decide +kernel
theorem dX5_guess_47 : decode cX5_guess 47 = .ok (.aload_n 0, 1) := by decide +kernel
theorem dX5_guess_48 : decode cX5_guess 48 = .ok (.iconst 1, 1) := by decide +kernel
theorem dX5_guess_49 : decode cX5_guess 49 = .ok (.iload_n 1, 1) := by decide +kernel
theorem dX5_guess_50 : decode cX5_guess 50 = .ok (.ishl, 1) := by decide +kernel
theorem dX5_guess_51 : decode cX5_guess 51 = .ok (.invokevirtual 156, 3) := by decide +kernel
theorem dX5_guess_54 : decode cX5_guess 54 = .ok (.isub, 1) := by decide +kernel
theorem dX5_guess_55 : decode cX5_guess 55 = .ok (.iload_n 2, 1) := by decide +kernel
theorem dX5_guess_56 : decode cX5_guess 56 = .ok (.invokestatic 191, 3) := by decide +kernel
theorem dX5_guess_59 : decode cX5_guess 59 = .ok (.isub, 1) := by decide +kernel
theorem dX5_guess_60 : decode cX5_guess 60 = .ok (.iload 4, 2) := by decide +kernel
theorem dX5_guess_62 : decode cX5_guess 62 = .ok (.iload_n 3, 1) := by decide +kernel
theorem dX5_guess_63 : decode cX5_guess 63 = .ok (.invokestatic 187, 3) := by decide +kernel
theorem dX5_guess_66 : decode cX5_guess 66 = .ok (.ireturn, 1) := by decide +kernel
theorem dX5_loss_0 : decode cX5_loss 0 = .ok (.aload_n 0, 1) := by decide +kernel
theorem dX5_loss_1 : decode cX5_loss 1 = .ok (.iconst 0, 1) := by decide +kernel
theorem dX5_loss_2 : decode cX5_loss 2 = .ok (.putfield 51, 3) := by decide +kernel
theorem dX5_loss_5 : decode cX5_loss 5 = .ok (.aload_n 0, 1) := by decide +kernel
theorem dX5_loss_6 : decode cX5_loss 6 = .ok (.getfield 19, 3) := by decide +kernel
theorem dX5_loss_9 : decode cX5_loss 9 = .ok (.iload_n 1, 1) := by decide +kernel
theorem dX5_loss_10 : decode cX5_loss 10 = .ok (.invokestatic 75, 3) := by decide +kernel
theorem dX5_loss_13 : decode cX5_loss 13 = .ok (.ifCond .eq 5, 3) := by decide +kernel
theorem dX5_loss_16 : decode cX5_loss 16 = .ok (.iconst (-1), 1) := by decide +kernel
theorem dX5_loss_17 : decode cX5_loss 17 = .ok (.ireturn, 1) := by decide +kernel
theorem dX5_loss_18 : decode cX5_loss 18 = .ok (.iload_n 2, 1) := by decide +kernel
theorem dX5_loss_19 : decode cX5_loss 19 = .ok (.i2l, 1) := by decide +kernel
theorem dX5_loss_20 : decode cX5_loss 20 = .ok (.lconst 0, 1) := by decide +kernel
theorem dX5_loss_21 : decode cX5_loss 21 = .ok (.ldc2_w 150, 3) := by decide +kernel
theorem dX5_loss_24 : decode cX5_loss 24 = .ok (.invokestatic 57, 3) := by decide +kernel
theorem dX5_loss_27 : decode cX5_loss 27 = .ok (.ifCond .eq 15, 3) := by decide +kernel
theorem dX5_loss_30 : decode cX5_loss 30 = .ok (.iload_n 3, 1) := by decide +kernel
theorem dX5_loss_31 : decode cX5_loss 31 = .ok (.i2l, 1) := by decide +kernel
theorem dX5_loss_32 : decode cX5_loss 32 = .ok (.lconst 0, 1) := by decide +kernel
theorem dX5_loss_33 : decode cX5_loss 33 = .ok (.ldc2_w 194, 3) := by decide +kernel
theorem dX5_loss_36 : decode cX5_loss 36 = .ok (.invokestatic 57, 3) := by decide +kernel
theorem dX5_loss_39 : decode cX5_loss 39 = .ok (.ifCond .ne 6, 3) := by decide +kernel
theorem dX5_loss_42 : decode cX5_loss 42 = .ok (.bipush (-2), 2) := by decide +kernel
theorem dX5_loss_44 : decode cX5_loss 44 = .ok (.ireturn, 1) := by decide +kernel
theorem dX5_loss_45 : decode cX5_loss 45 = .ok (.iload_n 2, 1) := by decide +kernel
theorem dX5_loss_46 : decode cX5_loss 46 = .ok (.aload_n 0, 1) := by decide +kernel
theorem dX5_loss_47 : decode cX5_loss 47 = .ok (.getfield 19, 3) := by decide +kernel
theorem dX5_loss_50 : decode cX5_loss 50 = .ok (.bipush 6, 2) := by decide +kernel
theorem dX5_loss_52 : decode cX5_loss 52 = .ok (.iload_n 1, 1) := by decide +kernel
theorem dX5_loss_53 : decode cX5_loss 53 = .ok (.imul, 1) := by decide +kernel
theorem dX5_loss_54 : decode cX5_loss 54 = .ok (.iconst 3, 1) := by decide +kernel
theorem dX5_loss_55 : decode cX5_loss 55 = .ok (.iadd, 1) := by decide +kernel
theorem dX5_loss_56 : decode cX5_loss 56 = .ok (.iaload, 1) := by decide +kernel
theorem dX5_loss_57 : decode cX5_loss 57 = .ok (.if_icmp .le 6, 3) := by decide +kernel
theorem dX5_loss_60 : decode cX5_loss 60 = .ok (.bipush (-3), 2) := by decide +kernel
theorem dX5_loss_62 : decode cX5_loss 62 = .ok (.ireturn, 1) := by decide +kernel
theorem dX5_loss_63 : decode cX5_loss 63 = .ok (.iconst 0, 1) := by decide +kernel
theorem dX5_loss_64 : decode cX5_loss 64 = .ok (.istore 5, 2) := by decide +kernel
theorem dX5_loss_66 : decode cX5_loss 66 = .ok (.iconst 0, 1) := by decide +kernel
theorem dX5_loss_67 : decode cX5_loss 67 = .ok (.istore 6, 2) := by decide +kernel
theorem dX5_loss_69 : decode cX5_loss 69 = .ok (.iload 6, 2) := by decide +kernel
theorem dX5_loss_71 : decode cX5_loss 71 = .ok (.iconst 1, 1) := by decide +kernel
theorem dX5_loss_72 : decode cX5_loss 72 = .ok (.iload_n 2, 1) := by decide +kernel
theorem dX5_loss_73 : decode cX5_loss 73 = .ok (.ishl, 1) := by decide +kernel
theorem dX5_loss_74 : decode cX5_loss 74 = .ok (.if_icmp .ge 116, 3) := by decide +kernel
theorem dX5_loss_77 : decode cX5_loss 77 = .ok (.aload_n 0, 1) := by decide +kernel
theorem dX5_loss_78 : decode cX5_loss 78 = .ok (.getfield 19, 3) := by decide +kernel
theorem dX5_loss_81 : decode cX5_loss 81 = .ok (.aload_n 0, 1) := by decide +kernel
theorem dX5_loss_82 : decode cX5_loss 82 = .ok (.getfield 22, 3) := by decide +kernel
theorem dX5_loss_85 : decode cX5_loss 85 = .ok (.invokestatic 116, 3) := by decide +kernel
theorem dX5_loss_88 : decode cX5_loss 88 = .ok (.iconst 0, 1) := by decide +kernel
theorem dX5_loss_89 : decode cX5_loss 89 = .ok (.istore 7, 2) := by decide +kernel
theorem dX5_loss_91 : decode cX5_loss 91 = .ok (.iload 7, 2) := by decide +kernel
theorem dX5_loss_93 : decode cX5_loss 93 = .ok (.iload_n 2, 1) := by decide +kernel
theorem dX5_loss_94 : decode cX5_loss 94 = .ok (.if_icmp .ge 46, 3) := by decide +kernel
theorem dX5_loss_97 : decode cX5_loss 97 = .ok (.iload 6, 2) := by decide +kernel
theorem dX5_loss_99 : decode cX5_loss 99 = .ok (.iload 7, 2) := by decide +kernel
theorem dX5_loss_101 : decode cX5_loss 101 = .ok (.invokestatic 152, 3) := by decide +kernel
theorem dX5_loss_104 : decode cX5_loss 104 = .ok (.ifCond .eq 21, 3) := by decide +kernel
theorem dX5_loss_107 : decode cX5_loss 107 = .ok (.aload_n 0, 1) := by decide +kernel
theorem dX5_loss_108 : decode cX5_loss 108 = .ok (.getfield 22, 3) := by decide +kernel
theorem dX5_loss_111 : decode cX5_loss 111 = .ok (.bipush 6, 2) := by decide +kernel
theorem dX5_loss_113 : decode cX5_loss 113 = .ok (.iload_n 1, 1) := by decide +kernel
theorem dX5_loss_114 : decode cX5_loss 114 = .ok (.imul, 1) := by decide +kernel
theorem dX5_loss_115 : decode cX5_loss 115 = .ok (.iconst 3, 1) := by decide +kernel
theorem dX5_loss_116 : decode cX5_loss 116 = .ok (.iadd, 1) := by decide +kernel
theorem dX5_loss_117 : decode cX5_loss 117 = .ok (.dup2, 1) := by decide +kernel
theorem dX5_loss_118 : decode cX5_loss 118 = .ok (.iaload, 1) := by decide +kernel
theorem dX5_loss_119 : decode cX5_loss 119 = .ok (.iconst 1, 1) := by decide +kernel
theorem dX5_loss_120 : decode cX5_loss 120 = .ok (.isub, 1) := by decide +kernel
theorem dX5_loss_121 : decode cX5_loss 121 = .ok (.iastore, 1) := by decide +kernel
theorem dX5_loss_122 : decode cX5_loss 122 = .ok (.goto 12, 3) := by decide +kernel
theorem dX5_loss_125 : decode cX5_loss 125 = .ok (.aload_n 0, 1) := by decide +kernel
theorem dX5_loss_126 : decode cX5_loss 126 = .ok (.getfield 22, 3) := by decide +kernel
theorem dX5_loss_129 : decode cX5_loss 129 = .ok (.iload_n 1, 1) := by decide +kernel
theorem dX5_loss_130 : decode cX5_loss 130 = .ok (.invokestatic 120, 3) := by decide +kernel
theorem dX5_loss_133 : decode cX5_loss 133 = .ok (.pop, 1) := by decide +kernel
theorem dX5_loss_134 : decode cX5_loss 134 = .ok (.iinc 7 1, 3) := by decide +kernel
theorem dX5_loss_137 : decode cX5_loss 137 = .ok (.goto (-46), 3) := by decide +kernel
theorem dX5_loss_140 : decode cX5_loss 140 = .ok (.iload 5, 2) := by decide +kernel
theorem dX5_loss_142 : decode cX5_loss 142 = .ok (.aload_n 0, 1) := by decide +kernel
theorem dX5_loss_143 : decode cX5_loss 143 = .ok (.getfield 22, 3) := by decide +kernel
theorem dX5_loss_146 : decode cX5_loss 146 = .ok (.iload_n 1, 1) := by decide +kernel
theorem dX5_loss_147 : decode cX5_loss 147 = .ok (.invokestatic 127, 3) := by decide +kernel
theorem dX5_loss_150 : decode cX5_loss 150 = .ok (.ifCond .eq 30, 3) := by decide +kernel
theorem dX5_loss_153 : decode cX5_loss 153 = .ok (.iload_n 3, 1) := by decide +kernel
theorem dX5_loss_154 : decode cX5_loss 154 = .ok (.iload 6, 2) := by decide +kernel
theorem dX5_loss_156 : decode cX5_loss 156 = .ok (.invokestatic 181, 3) := by decide +kernel
theorem dX5_loss_159 : decode cX5_loss 159 = .ok (.invokestatic 191, 3) := by decide +kernel
theorem dX5_loss_162 : decode cX5_loss 162 = .ok (.bipush 10, 2) := by decide +kernel
theorem dX5_loss_164 : decode cX5_loss 164 = .ok (.iload_n 3, 1) := by decide +kernel
theorem dX5_loss_165 : decode cX5_loss 165 = .ok (.isub, 1) := by decide +kernel
theorem dX5_loss_166 : decode cX5_loss 166 = .ok (.iload_n 2, 1) := by decide +kernel
theorem dX5_loss_167 : decode cX5_loss 167 = .ok (.iload 6, 2) := by decide +kernel
theorem dX5_loss_169 : decode cX5_loss 169 = .ok (.invokestatic 181, 3) := by decide +kernel
theorem dX5_loss_172 : decode cX5_loss 172 = .ok (.isub, 1) := by decide +kernel
theorem dX5_loss_173 : decode cX5_loss 173 = .ok (.invokestatic 191, 3) := by decide +kernel
theorem dX5_loss_176 : decode cX5_loss 176 = .ok (.imul, 1) := by decide +kernel
theorem dX5_loss_177 : decode cX5_loss 177 = .ok (.goto 4, 3) := by decide +kernel
theorem dX5_loss_180 : decode cX5_loss 180 = .ok (.iconst 0, 1) := by decide +kernel
theorem dX5_loss_181 : decode cX5_loss 181 = .ok (.iadd, 1) := by decide +kernel
theorem dX5_loss_182 : decode cX5_loss 182 = .ok (.istore 5, 2) := by decide +kernel
theorem dX5_loss_184 : decode cX5_loss 184 = .ok (.iinc 6 1, 3) := by decide +kernel
theorem dX5_loss_187 : decode cX5_loss 187 = .ok (.goto (-118), 3) := by decide +kernel
theorem dX5_loss_190 : decode cX5_loss 190 = .ok (.iload 5, 2) := by decide +kernel
theorem dX5_loss_192 : decode cX5_loss 192 = .ok (.bipush 10, 2) := by decide +kernel
theorem dX5_loss_194 : decode cX5_loss 194 = .ok (.iload_n 2, 1) := by decide +kernel
theorem dX5_loss_195 : decode cX5_loss 195 = .ok (.invokestatic 191, 3) := by decide +kernel
theorem dX5_loss_198 : decode cX5_loss 198 = .ok (.iload 4, 2) := by decide +kernel
theorem dX5_loss_200 : decode cX5_loss 200 = .ok (.invokestatic 187, 3) := by decide +kernel
theorem dX5_loss_203 : decode cX5_loss 203 = .ok (.ireturn, 1) := by decide +kernel
theorem dX5_seed_0 : decode cX5_seed 0 = .ok (.aload_n 0, 1) := by decide +kernel
theorem dX5_seed_1 : decode cX5_seed 1 = .ok (.iconst 0, 1) := by decide +kernel
theorem dX5_seed_2 : decode cX5_seed 2 = .ok (.putfield 51, 3) := by decide +kernel
theorem dX5_seed_5 : decode cX5_seed 5 = .ok (.aload_n 0, 1) := by decide +kernel
theorem dX5_seed_6 : decode cX5_seed 6 = .ok (.getfield 196, 3) := by decide +kernel
theorem dX5_seed_9 : decode cX5_seed 9 = .ok (.lstore_n 3, 1) := by decide +kernel
theorem dX5_seed_10 : decode cX5_seed 10 = .ok (.aload_n 0, 1) := by decide +kernel
theorem dX5_seed_11 : decode cX5_seed 11 = .ok (.lload_n 1, 1) := by decide +kernel
theorem dX5_seed_12 : decode cX5_seed 12 = .ok (.putfield 196, 3) := by decide +kernel
theorem dX5_seed_15 : decode cX5_seed 15 = .ok (.lload_n 3, 1) := by decide +kernel
theorem dX5_seed_16 : decode cX5_seed 16 = .ok (.lreturn, 1) := by decide +kernel
theorem dX5_drawn_0 : decode cX5_drawn 0 = .ok (.aload_n 0, 1) := by decide +kernel
theorem dX5_drawn_1 : decode cX5_drawn 1 = .ok (.iconst 0, 1) := by decide +kernel
theorem dX5_drawn_2 : decode cX5_drawn 2 = .ok (.putfield 51, 3) := by decide +kernel
theorem dX5_drawn_5 : decode cX5_drawn 5 = .ok (.iload_n 1, 1) := by decide +kernel
theorem dX5_drawn_6 : decode cX5_drawn 6 = .ok (.i2l, 1) := by decide +kernel
theorem dX5_drawn_7 : decode cX5_drawn 7 = .ok (.lconst 1, 1) := by decide +kernel
theorem dX5_drawn_8 : decode cX5_drawn 8 = .ok (.ldc2_w 200, 3) := by decide +kernel
theorem dX5_drawn_11 : decode cX5_drawn 11 = .ok (.invokestatic 57, 3) := by decide +kernel
theorem dX5_drawn_14 : decode cX5_drawn 14 = .ok (.ifCond .ne 6, 3) := by decide +kernel
theorem dX5_drawn_17 : decode cX5_drawn 17 = .ok (.bipush (-2), 2) := by decide +kernel
theorem dX5_drawn_19 : decode cX5_drawn 19 = .ok (.ireturn, 1) := by decide +kernel
theorem dX5_drawn_20 : decode cX5_drawn 20 = .ok (.aload_n 0, 1) := by decide +kernel
theorem dX5_drawn_21 : decode cX5_drawn 21 = .ok (.getfield 19, 3) := by decide +kernel
theorem dX5_drawn_24 : decode cX5_drawn 24 = .ok (.aload_n 0, 1) := by decide +kernel
theorem dX5_drawn_25 : decode cX5_drawn 25 = .ok (.getfield 22, 3) := by decide +kernel
theorem dX5_drawn_28 : decode cX5_drawn 28 = .ok (.invokestatic 116, 3) := by decide +kernel
theorem dX5_drawn_31 : decode cX5_drawn 31 = .ok (.iconst 0, 1) := by decide +kernel
theorem dX5_drawn_32 : decode cX5_drawn 32 = .ok (.istore_n 2, 1) := by decide +kernel
theorem dX5_drawn_33 : decode cX5_drawn 33 = .ok (.iconst 0, 1) := by decide +kernel
theorem dX5_drawn_34 : decode cX5_drawn 34 = .ok (.istore_n 3, 1) := by decide +kernel
theorem dX5_drawn_35 : decode cX5_drawn 35 = .ok (.iload_n 3, 1) := by decide +kernel
theorem dX5_drawn_36 : decode cX5_drawn 36 = .ok (.iload_n 1, 1) := by decide +kernel
theorem dX5_drawn_37 : decode cX5_drawn 37 = .ok (.if_icmp .ge 101, 3) := by decide +kernel
theorem dX5_drawn_40 : decode cX5_drawn 40 = .ok (.aload_n 0, 1) := by decide +kernel
theorem dX5_drawn_41 : decode cX5_drawn 41 = .ok (.aload_n 0, 1) := by decide +kernel
theorem dX5_drawn_42 : decode cX5_drawn 42 = .ok (.getfield 196, 3) := by decide +kernel
theorem dX5_drawn_45 : decode cX5_drawn 45 = .ok (.ldc2_w 202, 3) := by decide +kernel
theorem dX5_drawn_48 : decode cX5_drawn 48 = .ok (.lmul, 1) := by decide +kernel
theorem dX5_drawn_49 : decode cX5_drawn 49 = .ok (.ldc2_w 204, 3) := by decide +kernel
theorem dX5_drawn_52 : decode cX5_drawn 52 = .ok (.ladd, 1) := by decide +kernel
theorem dX5_drawn_53 : decode cX5_drawn 53 = .ok (.putfield 196, 3) := by decide +kernel
theorem dX5_drawn_56 : decode cX5_drawn 56 = .ok (.aload_n 0, 1) := by decide +kernel
theorem dX5_drawn_57 : decode cX5_drawn 57 = .ok (.getfield 196, 3) := by decide +kernel
theorem dX5_drawn_60 : decode cX5_drawn 60 = .ok (.bipush 33, 2) := by decide +kernel
theorem dX5_drawn_62 : decode cX5_drawn 62 = .ok (.lushr, 1) := by decide +kernel
theorem dX5_drawn_63 : decode cX5_drawn 63 = .ok (.l2i, 1) := by decide +kernel
theorem dX5_drawn_64 : decode cX5_drawn 64 = .ok (.istore 4, 2) := by decide +kernel
theorem dX5_drawn_66 : decode cX5_drawn 66 = .ok (.aload_n 0, 1) := by decide +kernel
theorem dX5_drawn_67 : decode cX5_drawn 67 = .ok (.getfield 22, 3) := by decide +kernel
theorem dX5_drawn_70 : decode cX5_drawn 70 = .ok (.iload 4, 2) := by decide +kernel
theorem dX5_drawn_72 : decode cX5_drawn 72 = .ok (.iconst 4, 1) := by decide +kernel
theorem dX5_drawn_73 : decode cX5_drawn 73 = .ok (.irem, 1) := by decide +kernel
theorem dX5_drawn_74 : decode cX5_drawn 74 = .ok (.invokestatic 79, 3) := by decide +kernel
theorem dX5_drawn_77 : decode cX5_drawn 77 = .ok (.ifCond .eq 55, 3) := by decide +kernel
theorem dX5_drawn_80 : decode cX5_drawn 80 = .ok (.iload 4, 2) := by decide +kernel
theorem dX5_drawn_82 : decode cX5_drawn 82 = .ok (.iconst 4, 1) := by decide +kernel
theorem dX5_drawn_83 : decode cX5_drawn 83 = .ok (.idiv, 1) := by decide +kernel
theorem dX5_drawn_84 : decode cX5_drawn 84 = .ok (.iconst 4, 1) := by decide +kernel
theorem dX5_drawn_85 : decode cX5_drawn 85 = .ok (.irem, 1) := by decide +kernel
theorem dX5_drawn_86 : decode cX5_drawn 86 = .ok (.ifCond .ne 24, 3) := by decide +kernel
theorem dX5_drawn_89 : decode cX5_drawn 89 = .ok (.aload_n 0, 1) := by decide +kernel
theorem dX5_drawn_90 : decode cX5_drawn 90 = .ok (.getfield 22, 3) := by decide +kernel
theorem dX5_drawn_93 : decode cX5_drawn 93 = .ok (.bipush 6, 2) := by decide +kernel
theorem dX5_drawn_95 : decode cX5_drawn 95 = .ok (.iload 4, 2) := by decide +kernel
theorem dX5_drawn_97 : decode cX5_drawn 97 = .ok (.iconst 4, 1) := by decide +kernel
theorem dX5_drawn_98 : decode cX5_drawn 98 = .ok (.irem, 1) := by decide +kernel
theorem dX5_drawn_99 : decode cX5_drawn 99 = .ok (.imul, 1) := by decide +kernel
theorem dX5_drawn_100 : decode cX5_drawn 100 = .ok (.iconst 3, 1) := by decide +kernel
theorem dX5_drawn_101 : decode cX5_drawn 101 = .ok (.iadd, 1) := by decide +kernel
theorem dX5_drawn_102 : decode cX5_drawn 102 = .ok (.dup2, 1) := by decide +kernel
theorem dX5_drawn_103 : decode cX5_drawn 103 = .ok (.iaload, 1) := by decide +kernel
theorem dX5_drawn_104 : decode cX5_drawn 104 = .ok (.iconst 1, 1) := by decide +kernel
theorem dX5_drawn_105 : decode cX5_drawn 105 = .ok (.isub, 1) := by decide +kernel
theorem dX5_drawn_106 : decode cX5_drawn 106 = .ok (.iastore, 1) := by decide +kernel
theorem dX5_drawn_107 : decode cX5_drawn 107 = .ok (.goto 25, 3) := by decide +kernel
theorem dX5_drawn_110 : decode cX5_drawn 110 = .ok (.iload_n 2, 1) := by decide +kernel
theorem dX5_drawn_111 : decode cX5_drawn 111 = .ok (.aload_n 0, 1) := by decide +kernel
theorem dX5_drawn_112 : decode cX5_drawn 112 = .ok (.getfield 22, 3) := by decide +kernel
theorem dX5_drawn_115 : decode cX5_drawn 115 = .ok (.iload 4, 2) := by decide +kernel
theorem dX5_drawn_117 : decode cX5_drawn 117 = .ok (.iconst 4, 1) := by decide +kernel
theorem dX5_drawn_118 : decode cX5_drawn 118 = .ok (.irem, 1) := by decide +kernel
theorem dX5_drawn_119 : decode cX5_drawn 119 = .ok (.invokestatic 120, 3) := by decide +kernel
theorem dX5_drawn_122 : decode cX5_drawn 122 = .ok (.ifCond .le 7, 3) := by decide +kernel
theorem dX5_drawn_125 : decode cX5_drawn 125 = .ok (.iconst 1, 1) := by decide +kernel
theorem dX5_drawn_126 : decode cX5_drawn 126 = .ok (.goto 4, 3) := by decide +kernel
theorem dX5_drawn_129 : decode cX5_drawn 129 = .ok (.iconst 0, 1) := by decide +kernel
theorem dX5_drawn_130 : decode cX5_drawn 130 = .ok (.iadd, 1) := by decide +kernel
theorem dX5_drawn_131 : decode cX5_drawn 131 = .ok (.istore_n 2, 1) := by decide +kernel
theorem dX5_drawn_132 : decode cX5_drawn 132 = .ok (.iinc 3 1, 3) := by decide +kernel
theorem dX5_drawn_135 : decode cX5_drawn 135 = .ok (.goto (-100), 3) := by decide +kernel
theorem dX5_drawn_138 : decode cX5_drawn 138 = .ok (.iload_n 2, 1) := by decide +kernel
theorem dX5_drawn_139 : decode cX5_drawn 139 = .ok (.ireturn, 1) := by decide +kernel
theorem dX5_keep_0 : decode cX5_keep 0 = .ok (.aload_n 0, 1) := by decide +kernel
theorem dX5_keep_1 : decode cX5_keep 1 = .ok (.iconst 0, 1) := by decide +kernel
theorem dX5_keep_2 : decode cX5_keep 2 = .ok (.putfield 51, 3) := by decide +kernel
theorem dX5_keep_5 : decode cX5_keep 5 = .ok (.iload_n 1, 1) := by decide +kernel
theorem dX5_keep_6 : decode cX5_keep 6 = .ok (.i2l, 1) := by decide +kernel
theorem dX5_keep_7 : decode cX5_keep 7 = .ok (.lconst 0, 1) := by decide +kernel
theorem dX5_keep_8 : decode cX5_keep 8 = .ok (.lconst 1, 1) := by decide +kernel
theorem dX5_keep_9 : decode cX5_keep 9 = .ok (.invokestatic 57, 3) := by decide +kernel
theorem dX5_keep_12 : decode cX5_keep 12 = .ok (.ifCond .ne 5, 3) := by decide +kernel
theorem dX5_keep_15 : decode cX5_keep 15 = .ok (.iconst (-1), 1) := by decide +kernel
theorem dX5_keep_16 : decode cX5_keep 16 = .ok (.ireturn, 1) := by decide +kernel
theorem dX5_keep_17 : decode cX5_keep 17 = .ok (.aload_n 0, 1) := by decide +kernel
theorem dX5_keep_18 : decode cX5_keep 18 = .ok (.getfield 31, 3) := by decide +kernel
theorem dX5_keep_21 : decode cX5_keep 21 = .ok (.iload_n 1, 1) := by decide +kernel
theorem dX5_keep_22 : decode cX5_keep 22 = .ok (.iconst 1, 1) := by decide +kernel
theorem dX5_keep_23 : decode cX5_keep 23 = .ok (.bastore, 1) := by decide +kernel
theorem dX5_keep_24 : decode cX5_keep 24 = .ok (.iconst 0, 1) := by decide +kernel
theorem dX5_keep_25 : decode cX5_keep 25 = .ok (.istore_n 2, 1) := by decide +kernel
theorem dX5_keep_26 : decode cX5_keep 26 = .ok (.iload_n 2, 1) := by decide +kernel
theorem dX5_keep_27 : decode cX5_keep 27 = .ok (.bipush 36, 2) := by decide +kernel
theorem dX5_keep_29 : decode cX5_keep 29 = .ok (.if_icmp .ge 26, 3) := by decide +kernel
theorem dX5_keep_32 : decode cX5_keep 32 = .ok (.aload_n 0, 1) := by decide +kernel
theorem dX5_keep_33 : decode cX5_keep 33 = .ok (.getfield 28, 3) := by decide +kernel
theorem dX5_keep_36 : decode cX5_keep 36 = .ok (.bipush 36, 2) := by decide +kernel
theorem dX5_keep_38 : decode cX5_keep 38 = .ok (.iload_n 1, 1) := by decide +kernel
theorem dX5_keep_39 : decode cX5_keep 39 = .ok (.imul, 1) := by decide +kernel
theorem dX5_keep_40 : decode cX5_keep 40 = .ok (.iload_n 2, 1) := by decide +kernel
theorem dX5_keep_41 : decode cX5_keep 41 = .ok (.iadd, 1) := by decide +kernel
theorem dX5_keep_42 : decode cX5_keep 42 = .ok (.aload_n 0, 1) := by decide +kernel
theorem dX5_keep_43 : decode cX5_keep 43 = .ok (.getfield 19, 3) := by decide +kernel
theorem dX5_keep_46 : decode cX5_keep 46 = .ok (.iload_n 2, 1) := by decide +kernel
theorem dX5_keep_47 : decode cX5_keep 47 = .ok (.iaload, 1) := by decide +kernel
theorem dX5_keep_48 : decode cX5_keep 48 = .ok (.iastore, 1) := by decide +kernel
theorem dX5_keep_49 : decode cX5_keep 49 = .ok (.iinc 2 1, 3) := by decide +kernel
theorem dX5_keep_52 : decode cX5_keep 52 = .ok (.goto (-26), 3) := by decide +kernel
theorem dX5_keep_55 : decode cX5_keep 55 = .ok (.aload_n 0, 1) := by decide +kernel
theorem dX5_keep_56 : decode cX5_keep 56 = .ok (.getfield 19, 3) := by decide +kernel
theorem dX5_keep_59 : decode cX5_keep 59 = .ok (.bipush 24, 2) := by decide +kernel
theorem dX5_keep_61 : decode cX5_keep 61 = .ok (.iaload, 1) := by decide +kernel
theorem dX5_keep_62 : decode cX5_keep 62 = .ok (.ireturn, 1) := by decide +kernel
theorem dX5_again_0 : decode cX5_again 0 = .ok (.aload_n 0, 1) := by decide +kernel
theorem dX5_again_1 : decode cX5_again 1 = .ok (.iconst 0, 1) := by decide +kernel
theorem dX5_again_2 : decode cX5_again 2 = .ok (.putfield 51, 3) := by decide +kernel
theorem dX5_again_5 : decode cX5_again 5 = .ok (.iload_n 1, 1) := by decide +kernel
theorem dX5_again_6 : decode cX5_again 6 = .ok (.i2l, 1) := by decide +kernel
theorem dX5_again_7 : decode cX5_again 7 = .ok (.lconst 0, 1) := by decide +kernel
theorem dX5_again_8 : decode cX5_again 8 = .ok (.lconst 1, 1) := by decide +kernel
theorem dX5_again_9 : decode cX5_again 9 = .ok (.invokestatic 57, 3) := by decide +kernel
theorem dX5_again_12 : decode cX5_again 12 = .ok (.ifCond .ne 5, 3) := by decide +kernel
theorem dX5_again_15 : decode cX5_again 15 = .ok (.iconst (-1), 1) := by decide +kernel
theorem dX5_again_16 : decode cX5_again 16 = .ok (.ireturn, 1) := by decide +kernel
theorem dX5_again_17 : decode cX5_again 17 = .ok (.aload_n 0, 1) := by decide +kernel
theorem dX5_again_18 : decode cX5_again 18 = .ok (.getfield 31, 3) := by decide +kernel
theorem dX5_again_21 : decode cX5_again 21 = .ok (.iload_n 1, 1) := by decide +kernel
theorem dX5_again_22 : decode cX5_again 22 = .ok (.baload, 1) := by decide +kernel
theorem dX5_again_23 : decode cX5_again 23 = .ok (.ifCond .ne 6, 3) := by decide +kernel
theorem dX5_again_26 : decode cX5_again 26 = .ok (.bipush (-3), 2) := by decide +kernel
theorem dX5_again_28 : decode cX5_again 28 = .ok (.ireturn, 1) := by decide +kernel
theorem dX5_again_29 : decode cX5_again 29 = .ok (.iconst 0, 1) := by decide +kernel
theorem dX5_again_30 : decode cX5_again 30 = .ok (.istore_n 2, 1) := by decide +kernel
theorem dX5_again_31 : decode cX5_again 31 = .ok (.iload_n 2, 1) := by decide +kernel
theorem dX5_again_32 : decode cX5_again 32 = .ok (.bipush 36, 2) := by decide +kernel
theorem dX5_again_34 : decode cX5_again 34 = .ok (.if_icmp .ge 26, 3) := by decide +kernel
theorem dX5_again_37 : decode cX5_again 37 = .ok (.aload_n 0, 1) := by decide +kernel
theorem dX5_again_38 : decode cX5_again 38 = .ok (.getfield 19, 3) := by decide +kernel
theorem dX5_again_41 : decode cX5_again 41 = .ok (.iload_n 2, 1) := by decide +kernel
theorem dX5_again_42 : decode cX5_again 42 = .ok (.aload_n 0, 1) := by decide +kernel
theorem dX5_again_43 : decode cX5_again 43 = .ok (.getfield 28, 3) := by decide +kernel
theorem dX5_again_46 : decode cX5_again 46 = .ok (.bipush 36, 2) := by decide +kernel
theorem dX5_again_48 : decode cX5_again 48 = .ok (.iload_n 1, 1) := by decide +kernel
theorem dX5_again_49 : decode cX5_again 49 = .ok (.imul, 1) := by decide +kernel
theorem dX5_again_50 : decode cX5_again 50 = .ok (.iload_n 2, 1) := by decide +kernel
theorem dX5_again_51 : decode cX5_again 51 = .ok (.iadd, 1) := by decide +kernel
theorem dX5_again_52 : decode cX5_again 52 = .ok (.iaload, 1) := by decide +kernel
theorem dX5_again_53 : decode cX5_again 53 = .ok (.iastore, 1) := by decide +kernel
theorem dX5_again_54 : decode cX5_again 54 = .ok (.iinc 2 1, 3) := by decide +kernel
theorem dX5_again_57 : decode cX5_again 57 = .ok (.goto (-26), 3) := by decide +kernel
theorem dX5_again_60 : decode cX5_again 60 = .ok (.aload_n 0, 1) := by decide +kernel
theorem dX5_again_61 : decode cX5_again 61 = .ok (.iconst 0, 1) := by decide +kernel
theorem dX5_again_62 : decode cX5_again 62 = .ok (.putfield 124, 3) := by decide +kernel
theorem dX5_again_65 : decode cX5_again 65 = .ok (.aload_n 0, 1) := by decide +kernel
theorem dX5_again_66 : decode cX5_again 66 = .ok (.getfield 19, 3) := by decide +kernel
theorem dX5_again_69 : decode cX5_again 69 = .ok (.bipush 24, 2) := by decide +kernel
theorem dX5_again_71 : decode cX5_again 71 = .ok (.iaload, 1) := by decide +kernel
theorem dX5_again_72 : decode cX5_again 72 = .ok (.ireturn, 1) := by decide +kernel
theorem dX5_count_0 : decode cX5_count 0 = .ok (.aload_n 0, 1) := by decide +kernel
theorem dX5_count_1 : decode cX5_count 1 = .ok (.iconst 0, 1) := by decide +kernel
theorem dX5_count_2 : decode cX5_count 2 = .ok (.putfield 51, 3) := by decide +kernel
theorem dX5_count_5 : decode cX5_count 5 = .ok (.iload_n 1, 1) := by decide +kernel
theorem dX5_count_6 : decode cX5_count 6 = .ok (.tableswitch 89 0 6 #[42, 47, 55, 63, 71, 79, 84], 42) := by decide +kernel
theorem dX5_count_48 : decode cX5_count 48 = .ok (.aload_n 0, 1) := by decide +kernel
theorem dX5_count_49 : decode cX5_count 49 = .ok (.getfield 84, 3) := by decide +kernel
theorem dX5_count_52 : decode cX5_count 52 = .ok (.ireturn, 1) := by decide +kernel
theorem dX5_count_53 : decode cX5_count 53 = .ok (.aload_n 0, 1) := by decide +kernel
theorem dX5_count_54 : decode cX5_count 54 = .ok (.getfield 19, 3) := by decide +kernel
theorem dX5_count_57 : decode cX5_count 57 = .ok (.bipush 24, 2) := by decide +kernel
theorem dX5_count_59 : decode cX5_count 59 = .ok (.iaload, 1) := by decide +kernel
theorem dX5_count_60 : decode cX5_count 60 = .ok (.ireturn, 1) := by decide +kernel
theorem dX5_count_61 : decode cX5_count 61 = .ok (.aload_n 0, 1) := by decide +kernel
theorem dX5_count_62 : decode cX5_count 62 = .ok (.getfield 19, 3) := by decide +kernel
theorem dX5_count_65 : decode cX5_count 65 = .ok (.bipush 25, 2) := by decide +kernel
theorem dX5_count_67 : decode cX5_count 67 = .ok (.iaload, 1) := by decide +kernel
theorem dX5_count_68 : decode cX5_count 68 = .ok (.ireturn, 1) := by decide +kernel
theorem dX5_count_69 : decode cX5_count 69 = .ok (.aload_n 0, 1) := by decide +kernel
theorem dX5_count_70 : decode cX5_count 70 = .ok (.getfield 19, 3) := by decide +kernel
theorem dX5_count_73 : decode cX5_count 73 = .ok (.bipush 26, 2) := by decide +kernel
theorem dX5_count_75 : decode cX5_count 75 = .ok (.iaload, 1) := by decide +kernel
theorem dX5_count_76 : decode cX5_count 76 = .ok (.ireturn, 1) := by decide +kernel
theorem dX5_count_77 : decode cX5_count 77 = .ok (.aload_n 0, 1) := by decide +kernel
theorem dX5_count_78 : decode cX5_count 78 = .ok (.getfield 19, 3) := by decide +kernel
theorem dX5_count_81 : decode cX5_count 81 = .ok (.bipush 27, 2) := by decide +kernel
theorem dX5_count_83 : decode cX5_count 83 = .ok (.iaload, 1) := by decide +kernel
theorem dX5_count_84 : decode cX5_count 84 = .ok (.ireturn, 1) := by decide +kernel
theorem dX5_count_85 : decode cX5_count 85 = .ok (.aload_n 0, 1) := by decide +kernel
theorem dX5_count_86 : decode cX5_count 86 = .ok (.getfield 124, 3) := by decide +kernel
theorem dX5_count_89 : decode cX5_count 89 = .ok (.ireturn, 1) := by decide +kernel
theorem dX5_count_90 : decode cX5_count 90 = .ok (.aload_n 0, 1) := by decide +kernel
theorem dX5_count_91 : decode cX5_count 91 = .ok (.getfield 175, 3) := by decide +kernel
theorem dX5_count_94 : decode cX5_count 94 = .ok (.ireturn, 1) := by decide +kernel
theorem dX5_count_95 : decode cX5_count 95 = .ok (.bipush (-2), 2) := by decide +kernel
theorem dX5_count_97 : decode cX5_count 97 = .ok (.ireturn, 1) := by decide +kernel
