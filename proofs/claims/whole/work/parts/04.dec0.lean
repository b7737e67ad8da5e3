theorem dX0_init_0 : decode cX0_init 0 = .ok (.aload_n 0, 1) := by decide +kernel
theorem dX0_init_1 : decode cX0_init 1 = .ok (.invokespecial 5, 3) := by decide +kernel
theorem dX0_init_4 : decode cX0_init 4 = .ok (.aload_n 0, 1) := by decide +kernel
theorem dX0_init_5 : decode cX0_init 5 = .ok (.bipush 36, 2) := by decide +kernel
theorem dX0_init_7 : decode cX0_init 7 = .ok (.newarray .int, 2) := by decide +kernel
theorem dX0_init_9 : decode cX0_init 9 = .ok (.putfield 11, 3) := by decide +kernel
theorem dX0_init_12 : decode cX0_init 12 = .ok (.aload_n 0, 1) := by decide +kernel
theorem dX0_init_13 : decode cX0_init 13 = .ok (.invokevirtual 15, 3) := by decide +kernel
theorem dX0_init_16 : decode cX0_init 16 = .ok (.return_, 1) := by decide +kernel
theorem dX0_clear_0 : decode cX0_clear 0 = .ok (.aload_n 0, 1) := by decide +kernel
theorem dX0_clear_1 : decode cX0_clear 1 = .ok (.getfield 11, 3) := by decide +kernel
theorem dX0_clear_4 : decode cX0_clear 4 = .ok (.iconst 0, 1) := by decide +kernel
theorem dX0_clear_5 : decode cX0_clear 5 = .ok (.invokestatic 18, 3) := by decide +kernel
theorem dX0_clear_8 : decode cX0_clear 8 = .ok (.aload_n 0, 1) := by decide +kernel
theorem dX0_clear_9 : decode cX0_clear 9 = .ok (.getfield 11, 3) := by decide +kernel
theorem dX0_clear_12 : decode cX0_clear 12 = .ok (.iconst 1, 1) := by decide +kernel
theorem dX0_clear_13 : decode cX0_clear 13 = .ok (.iconst 1, 1) := by decide +kernel
theorem dX0_clear_14 : decode cX0_clear 14 = .ok (.iastore, 1) := by decide +kernel
theorem dX0_clear_15 : decode cX0_clear 15 = .ok (.aload_n 0, 1) := by decide +kernel
theorem dX0_clear_16 : decode cX0_clear 16 = .ok (.getfield 11, 3) := by decide +kernel
theorem dX0_clear_19 : decode cX0_clear 19 = .ok (.iconst 2, 1) := by decide +kernel
theorem dX0_clear_20 : decode cX0_clear 20 = .ok (.bipush (-9), 2) := by decide +kernel
theorem dX0_clear_22 : decode cX0_clear 22 = .ok (.iastore, 1) := by decide +kernel
theorem dX0_clear_23 : decode cX0_clear 23 = .ok (.return_, 1) := by decide +kernel
theorem dX0_copyFrom_0 : decode cX0_copyFrom 0 = .ok (.aload_n 1, 1) := by decide +kernel
theorem dX0_copyFrom_1 : decode cX0_copyFrom 1 = .ok (.getfield 11, 3) := by decide +kernel
theorem dX0_copyFrom_4 : decode cX0_copyFrom 4 = .ok (.iconst 0, 1) := by decide +kernel
theorem dX0_copyFrom_5 : decode cX0_copyFrom 5 = .ok (.aload_n 0, 1) := by decide +kernel
theorem dX0_copyFrom_6 : decode cX0_copyFrom 6 = .ok (.getfield 11, 3) := by decide +kernel
theorem dX0_copyFrom_9 : decode cX0_copyFrom 9 = .ok (.iconst 0, 1) := by decide +kernel
theorem dX0_copyFrom_10 : decode cX0_copyFrom 10 = .ok (.bipush 36, 2) := by decide +kernel
theorem dX0_copyFrom_12 : decode cX0_copyFrom 12 = .ok (.invokestatic 24, 3) := by decide +kernel
theorem dX0_copyFrom_15 : decode cX0_copyFrom 15 = .ok (.return_, 1) := by decide +kernel
theorem dX0_users_0 : decode cX0_users 0 = .ok (.aload_n 0, 1) := by decide +kernel
theorem dX0_users_1 : decode cX0_users 1 = .ok (.getfield 11, 3) := by decide +kernel
theorem dX0_users_4 : decode cX0_users 4 = .ok (.iconst 0, 1) := by decide +kernel
theorem dX0_users_5 : decode cX0_users 5 = .ok (.iaload, 1) := by decide +kernel
theorem dX0_users_6 : decode cX0_users 6 = .ok (.ireturn, 1) := by decide +kernel
theorem dX0_window_0 : decode cX0_window 0 = .ok (.aload_n 0, 1) := by decide +kernel
theorem dX0_window_1 : decode cX0_window 1 = .ok (.getfield 11, 3) := by decide +kernel
theorem dX0_window_4 : decode cX0_window 4 = .ok (.iconst 1, 1) := by decide +kernel
theorem dX0_window_5 : decode cX0_window 5 = .ok (.iaload, 1) := by decide +kernel
theorem dX0_window_6 : decode cX0_window 6 = .ok (.ireturn, 1) := by decide +kernel
theorem dX0_setWindow_0 : decode cX0_setWindow 0 = .ok (.aload_n 0, 1) := by decide +kernel
theorem dX0_setWindow_1 : decode cX0_setWindow 1 = .ok (.getfield 11, 3) := by decide +kernel
theorem dX0_setWindow_4 : decode cX0_setWindow 4 = .ok (.iconst 1, 1) := by decide +kernel
theorem dX0_setWindow_5 : decode cX0_setWindow 5 = .ok (.iload_n 1, 1) := by decide +kernel
theorem dX0_setWindow_6 : decode cX0_setWindow 6 = .ok (.iastore, 1) := by decide +kernel
theorem dX0_setWindow_7 : decode cX0_setWindow 7 = .ok (.return_, 1) := by decide +kernel
theorem dX0_wire_0 : decode cX0_wire 0 = .ok (.aload_n 0, 1) := by decide +kernel
theorem dX0_wire_1 : decode cX0_wire 1 = .ok (.getfield 11, 3) := by decide +kernel
theorem dX0_wire_4 : decode cX0_wire 4 = .ok (.iconst 2, 1) := by decide +kernel
theorem dX0_wire_5 : decode cX0_wire 5 = .ok (.iaload, 1) := by decide +kernel
theorem dX0_wire_6 : decode cX0_wire 6 = .ok (.ireturn, 1) := by decide +kernel
theorem dX0_userIn_0 : decode cX0_userIn 0 = .ok (.iload_n 0, 1) := by decide +kernel
theorem dX0_userIn_1 : decode cX0_userIn 1 = .ok (.sipush 1000, 3) := by decide +kernel
theorem dX0_userIn_4 : decode cX0_userIn 4 = .ok (.idiv, 1) := by decide +kernel
theorem dX0_userIn_5 : decode cX0_userIn 5 = .ok (.ireturn, 1) := by decide +kernel
theorem dX0_numberIn_0 : decode cX0_numberIn 0 = .ok (.iload_n 0, 1) := by decide +kernel
theorem dX0_numberIn_1 : decode cX0_numberIn 1 = .ok (.sipush 1000, 3) := by decide +kernel
theorem dX0_numberIn_4 : decode cX0_numberIn 4 = .ok (.irem, 1) := by decide +kernel
theorem dX0_numberIn_5 : decode cX0_numberIn 5 = .ok (.ireturn, 1) := by decide +kernel
theorem dX0_heardCount_0 : decode cX0_heardCount 0 = .ok (.aload_n 0, 1) := by decide +kernel
theorem dX0_heardCount_1 : decode cX0_heardCount 1 = .ok (.getfield 11, 3) := by decide +kernel
theorem dX0_heardCount_4 : decode cX0_heardCount 4 = .ok (.iconst 3, 1) := by decide +kernel
theorem dX0_heardCount_5 : decode cX0_heardCount 5 = .ok (.iaload, 1) := by decide +kernel
theorem dX0_heardCount_6 : decode cX0_heardCount 6 = .ok (.ireturn, 1) := by decide +kernel
theorem dX0_heardAt_0 : decode cX0_heardAt 0 = .ok (.iload_n 1, 1) := by decide +kernel
theorem dX0_heardAt_1 : decode cX0_heardAt 1 = .ok (.ifCond .lt 23, 3) := by decide +kernel
theorem dX0_heardAt_4 : decode cX0_heardAt 4 = .ok (.iload_n 1, 1) := by decide +kernel
theorem dX0_heardAt_5 : decode cX0_heardAt 5 = .ok (.aload_n 0, 1) := by decide +kernel
theorem dX0_heardAt_6 : decode cX0_heardAt 6 = .ok (.getfield 11, 3) := by decide +kernel
theorem dX0_heardAt_9 : decode cX0_heardAt 9 = .ok (.iconst 3, 1) := by decide +kernel
theorem dX0_heardAt_10 : decode cX0_heardAt 10 = .ok (.iaload, 1) := by decide +kernel
theorem dX0_heardAt_11 : decode cX0_heardAt 11 = .ok (.if_icmp .ge 13, 3) := by decide +kernel
theorem dX0_heardAt_14 : decode cX0_heardAt 14 = .ok (.iload_n 1, 1) := by decide +kernel
theorem dX0_heardAt_15 : decode cX0_heardAt 15 = .ok (.bipush 8, 2) := by decide +kernel
theorem dX0_heardAt_17 : decode cX0_heardAt 17 = .ok (.if_icmp .ge 7, 3) := by decide +kernel
theorem dX0_heardAt_20 : decode cX0_heardAt 20 = .ok (.iconst 1, 1) := by decide +kernel
theorem dX0_heardAt_21 : decode cX0_heardAt 21 = .ok (.goto 4, 3) := by decide +kernel
theorem dX0_heardAt_24 : decode cX0_heardAt 24 = .ok (.iconst 0, 1) := by decide +kernel
theorem dX0_heardAt_25 : decode cX0_heardAt 25 = .ok (.istore_n 2, 1) := by decide +kernel
theorem dX0_heardAt_26 : decode cX0_heardAt 26 = .ok (.iload_n 2, 1) := by decide +kernel
theorem dX0_heardAt_27 : decode cX0_heardAt 27 = .ok (.ifCond .eq 14, 3) := by decide +kernel
theorem dX0_heardAt_30 : decode cX0_heardAt 30 = .ok (.aload_n 0, 1) := by decide +kernel
theorem dX0_heardAt_31 : decode cX0_heardAt 31 = .ok (.getfield 11, 3) := by decide +kernel
theorem dX0_heardAt_34 : decode cX0_heardAt 34 = .ok (.iconst 4, 1) := by decide +kernel
theorem dX0_heardAt_35 : decode cX0_heardAt 35 = .ok (.iload_n 1, 1) := by decide +kernel
theorem dX0_heardAt_36 : decode cX0_heardAt 36 = .ok (.iadd, 1) := by decide +kernel
theorem dX0_heardAt_37 : decode cX0_heardAt 37 = .ok (.iaload, 1) := by decide +kernel
theorem dX0_heardAt_38 : decode cX0_heardAt 38 = .ok (.goto 5, 3) := by decide +kernel
theorem dX0_heardAt_41 : decode cX0_heardAt 41 = .ok (.bipush (-9), 2) := by decide +kernel
theorem dX0_heardAt_43 : decode cX0_heardAt 43 = .ok (.ireturn, 1) := by decide +kernel
theorem dX0_overhear_0 : decode cX0_overhear 0 = .ok (.aload_n 0, 1) := by decide +kernel
theorem dX0_overhear_1 : decode cX0_overhear 1 = .ok (.getfield 11, 3) := by decide +kernel
theorem dX0_overhear_4 : decode cX0_overhear 4 = .ok (.iconst 3, 1) := by decide +kernel
theorem dX0_overhear_5 : decode cX0_overhear 5 = .ok (.iaload, 1) := by decide +kernel
theorem dX0_overhear_6 : decode cX0_overhear 6 = .ok (.istore_n 1, 1) := by decide +kernel
theorem dX0_overhear_7 : decode cX0_overhear 7 = .ok (.iload_n 1, 1) := by decide +kernel
theorem dX0_overhear_8 : decode cX0_overhear 8 = .ok (.ifCond .lt 32, 3) := by decide +kernel
theorem dX0_overhear_11 : decode cX0_overhear 11 = .ok (.iload_n 1, 1) := by decide +kernel
theorem dX0_overhear_12 : decode cX0_overhear 12 = .ok (.bipush 8, 2) := by decide +kernel
theorem dX0_overhear_14 : decode cX0_overhear 14 = .ok (.if_icmp .ge 26, 3) := by decide +kernel
theorem dX0_overhear_17 : decode cX0_overhear 17 = .ok (.aload_n 0, 1) := by decide +kernel
theorem dX0_overhear_18 : decode cX0_overhear 18 = .ok (.getfield 11, 3) := by decide +kernel
theorem dX0_overhear_21 : decode cX0_overhear 21 = .ok (.iconst 4, 1) := by decide +kernel
theorem dX0_overhear_22 : decode cX0_overhear 22 = .ok (.iload_n 1, 1) := by decide +kernel
theorem dX0_overhear_23 : decode cX0_overhear 23 = .ok (.iadd, 1) := by decide +kernel
theorem dX0_overhear_24 : decode cX0_overhear 24 = .ok (.aload_n 0, 1) := by decide +kernel
theorem dX0_overhear_25 : decode cX0_overhear 25 = .ok (.getfield 11, 3) := by decide +kernel
theorem dX0_overhear_28 : decode cX0_overhear 28 = .ok (.iconst 2, 1) := by decide +kernel
theorem dX0_overhear_29 : decode cX0_overhear 29 = .ok (.iaload, 1) := by decide +kernel
theorem dX0_overhear_30 : decode cX0_overhear 30 = .ok (.iastore, 1) := by decide +kernel
theorem dX0_overhear_31 : decode cX0_overhear 31 = .ok (.aload_n 0, 1) := by decide +kernel
theorem dX0_overhear_32 : decode cX0_overhear 32 = .ok (.getfield 11, 3) := by decide +kernel
theorem dX0_overhear_35 : decode cX0_overhear 35 = .ok (.iconst 3, 1) := by decide +kernel
theorem dX0_overhear_36 : decode cX0_overhear 36 = .ok (.iload_n 1, 1) := by decide +kernel
theorem dX0_overhear_37 : decode cX0_overhear 37 = .ok (.iconst 1, 1) := by decide +kernel
theorem dX0_overhear_38 : decode cX0_overhear 38 = .ok (.iadd, 1) := by decide +kernel
theorem dX0_overhear_39 : decode cX0_overhear 39 = .ok (.iastore, 1) := by decide +kernel
theorem dX0_overhear_40 : decode cX0_overhear 40 = .ok (.return_, 1) := by decide +kernel
theorem dX0_has_0 : decode cX0_has 0 = .ok (.iload_n 1, 1) := by decide +kernel
theorem dX0_has_1 : decode cX0_has 1 = .ok (.ifCond .lt 17, 3) := by decide +kernel
theorem dX0_has_4 : decode cX0_has 4 = .ok (.iload_n 1, 1) := by decide +kernel
theorem dX0_has_5 : decode cX0_has 5 = .ok (.aload_n 0, 1) := by decide +kernel
theorem dX0_has_6 : decode cX0_has 6 = .ok (.getfield 11, 3) := by decide +kernel
theorem dX0_has_9 : decode cX0_has 9 = .ok (.iconst 0, 1) := by decide +kernel
theorem dX0_has_10 : decode cX0_has 10 = .ok (.iaload, 1) := by decide +kernel
theorem dX0_has_11 : decode cX0_has 11 = .ok (.if_icmp .ge 7, 3) := by decide +kernel
theorem dX0_has_14 : decode cX0_has 14 = .ok (.iconst 1, 1) := by decide +kernel
theorem dX0_has_15 : decode cX0_has 15 = .ok (.goto 4, 3) := by decide +kernel
theorem dX0_has_18 : decode cX0_has 18 = .ok (.iconst 0, 1) := by decide +kernel
theorem dX0_has_19 : decode cX0_has 19 = .ok (.ireturn, 1) := by decide +kernel
theorem dX0_of_0 : decode cX0_of 0 = .ok (.iload_n 1, 1) := by decide +kernel
theorem dX0_of_1 : decode cX0_of 1 = .ok (.ifCond .lt 22, 3) := by decide +kernel
theorem dX0_of_4 : decode cX0_of 4 = .ok (.iload_n 1, 1) := by decide +kernel
theorem dX0_of_5 : decode cX0_of 5 = .ok (.iconst 4, 1) := by decide +kernel
theorem dX0_of_6 : decode cX0_of 6 = .ok (.if_icmp .ge 17, 3) := by decide +kernel
theorem dX0_of_9 : decode cX0_of 9 = .ok (.iload_n 2, 1) := by decide +kernel
theorem dX0_of_10 : decode cX0_of 10 = .ok (.ifCond .lt 13, 3) := by decide +kernel
theorem dX0_of_13 : decode cX0_of 13 = .ok (.iload_n 2, 1) := by decide +kernel
theorem dX0_of_14 : decode cX0_of 14 = .ok (.bipush 6, 2) := by decide +kernel
theorem dX0_of_16 : decode cX0_of 16 = .ok (.if_icmp .ge 7, 3) := by decide +kernel
theorem dX0_of_19 : decode cX0_of 19 = .ok (.iconst 1, 1) := by decide +kernel
theorem dX0_of_20 : decode cX0_of 20 = .ok (.goto 4, 3) := by decide +kernel
theorem dX0_of_23 : decode cX0_of 23 = .ok (.iconst 0, 1) := by decide +kernel
theorem dX0_of_24 : decode cX0_of 24 = .ok (.istore_n 3, 1) := by decide +kernel
theorem dX0_of_25 : decode cX0_of 25 = .ok (.iload_n 3, 1) := by decide +kernel
theorem dX0_of_26 : decode cX0_of 26 = .ok (.ifCond .eq 20, 3) := by decide +kernel
theorem dX0_of_29 : decode cX0_of 29 = .ok (.aload_n 0, 1) := by decide +kernel
theorem dX0_of_30 : decode cX0_of 30 = .ok (.getfield 11, 3) := by decide +kernel
theorem dX0_of_33 : decode cX0_of 33 = .ok (.bipush 12, 2) := by decide +kernel
theorem dX0_of_35 : decode cX0_of 35 = .ok (.iload_n 1, 1) := by decide +kernel
theorem dX0_of_36 : decode cX0_of 36 = .ok (.bipush 6, 2) := by decide +kernel
theorem dX0_of_38 : decode cX0_of 38 = .ok (.imul, 1) := by decide +kernel
theorem dX0_of_39 : decode cX0_of 39 = .ok (.iadd, 1) := by decide +kernel
theorem dX0_of_40 : decode cX0_of 40 = .ok (.iload_n 2, 1) := by decide +kernel
theorem dX0_of_41 : decode cX0_of 41 = .ok (.iadd, 1) := by decide +kernel
theorem dX0_of_42 : decode cX0_of 42 = .ok (.iaload, 1) := by decide +kernel
theorem dX0_of_43 : decode cX0_of 43 = .ok (.goto 4, 3) := by decide +kernel
theorem dX0_of_46 : decode cX0_of 46 = .ok (.iconst 0, 1) := by decide +kernel
theorem dX0_of_47 : decode cX0_of 47 = .ok (.ireturn, 1) := by decide +kernel
theorem dX0_put_0 : decode cX0_put 0 = .ok (.iload_n 1, 1) := by decide +kernel
theorem dX0_put_1 : decode cX0_put 1 = .ok (.ifCond .lt 33, 3) := by decide +kernel
theorem dX0_put_4 : decode cX0_put 4 = .ok (.iload_n 1, 1) := by decide +kernel
theorem dX0_put_5 : decode cX0_put 5 = .ok (.iconst 4, 1) := by decide +kernel
theorem dX0_put_6 : decode cX0_put 6 = .ok (.if_icmp .ge 28, 3) := by decide +kernel
theorem dX0_put_9 : decode cX0_put 9 = .ok (.iload_n 2, 1) := by decide +kernel
theorem dX0_put_10 : decode cX0_put 10 = .ok (.ifCond .lt 24, 3) := by decide +kernel
theorem dX0_put_13 : decode cX0_put 13 = .ok (.iload_n 2, 1) := by decide +kernel
theorem dX0_put_14 : decode cX0_put 14 = .ok (.bipush 6, 2) := by decide +kernel
theorem dX0_put_16 : decode cX0_put 16 = .ok (.if_icmp .ge 18, 3) := by decide +kernel
theorem dX0_put_19 : decode cX0_put 19 = .ok (.aload_n 0, 1) := by decide +kernel
theorem dX0_put_20 : decode cX0_put 20 = .ok (.getfield 11, 3) := by decide +kernel
theorem dX0_put_23 : decode cX0_put 23 = .ok (.bipush 12, 2) := by decide +kernel
theorem dX0_put_25 : decode cX0_put 25 = .ok (.iload_n 1, 1) := by decide +kernel
theorem dX0_put_26 : decode cX0_put 26 = .ok (.bipush 6, 2) := by decide +kernel
theorem dX0_put_28 : decode cX0_put 28 = .ok (.imul, 1) := by decide +kernel
theorem dX0_put_29 : decode cX0_put 29 = .ok (.iadd, 1) := by decide +kernel
theorem dX0_put_30 : decode cX0_put 30 = .ok (.iload_n 2, 1) := by decide +kernel
theorem dX0_put_31 : decode cX0_put 31 = .ok (.iadd, 1) := by decide +kernel
theorem dX0_put_32 : decode cX0_put 32 = .ok (.iload_n 3, 1) := by decide +kernel
theorem dX0_put_33 : decode cX0_put 33 = .ok (.iastore, 1) := by decide +kernel
theorem dX0_put_34 : decode cX0_put 34 = .ok (.return_, 1) := by decide +kernel
theorem dX0_addUser_0 : decode cX0_addUser 0 = .ok (.aload_n 0, 1) := by decide +kernel
theorem dX0_addUser_1 : decode cX0_addUser 1 = .ok (.getfield 11, 3) := by decide +kernel
theorem dX0_addUser_4 : decode cX0_addUser 4 = .ok (.iconst 0, 1) := by decide +kernel
theorem dX0_addUser_5 : decode cX0_addUser 5 = .ok (.iaload, 1) := by decide +kernel
theorem dX0_addUser_6 : decode cX0_addUser 6 = .ok (.istore 4, 2) := by decide +kernel
theorem dX0_addUser_8 : decode cX0_addUser 8 = .ok (.iload 4, 2) := by decide +kernel
theorem dX0_addUser_10 : decode cX0_addUser 10 = .ok (.iconst 4, 1) := by decide +kernel
theorem dX0_addUser_11 : decode cX0_addUser 11 = .ok (.if_icmp .ge 22, 3) := by decide +kernel
theorem dX0_addUser_14 : decode cX0_addUser 14 = .ok (.aload_n 0, 1) := by decide +kernel
theorem dX0_addUser_15 : decode cX0_addUser 15 = .ok (.getfield 11, 3) := by decide +kernel
theorem dX0_addUser_18 : decode cX0_addUser 18 = .ok (.iconst 0, 1) := by decide +kernel
theorem dX0_addUser_19 : decode cX0_addUser 19 = .ok (.iload 4, 2) := by decide +kernel
theorem dX0_addUser_21 : decode cX0_addUser 21 = .ok (.iconst 1, 1) := by decide +kernel
theorem dX0_addUser_22 : decode cX0_addUser 22 = .ok (.iadd, 1) := by decide +kernel
theorem dX0_addUser_23 : decode cX0_addUser 23 = .ok (.iastore, 1) := by decide +kernel
theorem dX0_addUser_24 : decode cX0_addUser 24 = .ok (.aload_n 0, 1) := by decide +kernel
theorem dX0_addUser_25 : decode cX0_addUser 25 = .ok (.iload 4, 2) := by decide +kernel
theorem dX0_addUser_27 : decode cX0_addUser 27 = .ok (.iload_n 1, 1) := by decide +kernel
theorem dX0_addUser_28 : decode cX0_addUser 28 = .ok (.iload_n 2, 1) := by decide +kernel
theorem dX0_addUser_29 : decode cX0_addUser 29 = .ok (.iload_n 3, 1) := by decide +kernel
theorem dX0_addUser_30 : decode cX0_addUser 30 = .ok (.invokevirtual 30, 3) := by decide +kernel
theorem dX0_addUser_33 : decode cX0_addUser 33 = .ok (.return_, 1) := by decide +kernel
theorem dX0_beginRow_0 : decode cX0_beginRow 0 = .ok (.aload_n 0, 1) := by decide +kernel
theorem dX0_beginRow_1 : decode cX0_beginRow 1 = .ok (.iload_n 1, 1) := by decide +kernel
theorem dX0_beginRow_2 : decode cX0_beginRow 2 = .ok (.iconst 0, 1) := by decide +kernel
theorem dX0_beginRow_3 : decode cX0_beginRow 3 = .ok (.iload_n 2, 1) := by decide +kernel
theorem dX0_beginRow_4 : decode cX0_beginRow 4 = .ok (.invokevirtual 34, 3) := by decide +kernel
theorem dX0_beginRow_7 : decode cX0_beginRow 7 = .ok (.aload_n 0, 1) := by decide +kernel
theorem dX0_beginRow_8 : decode cX0_beginRow 8 = .ok (.iload_n 1, 1) := by decide +kernel
theorem dX0_beginRow_9 : decode cX0_beginRow 9 = .ok (.iconst 1, 1) := by decide +kernel
theorem dX0_beginRow_10 : decode cX0_beginRow 10 = .ok (.iload_n 3, 1) := by decide +kernel
theorem dX0_beginRow_11 : decode cX0_beginRow 11 = .ok (.invokevirtual 34, 3) := by decide +kernel
theorem dX0_beginRow_14 : decode cX0_beginRow 14 = .ok (.aload_n 0, 1) := by decide +kernel
theorem dX0_beginRow_15 : decode cX0_beginRow 15 = .ok (.iload_n 1, 1) := by decide +kernel
theorem dX0_beginRow_16 : decode cX0_beginRow 16 = .ok (.iconst 2, 1) := by decide +kernel
theorem dX0_beginRow_17 : decode cX0_beginRow 17 = .ok (.iload 4, 2) := by decide +kernel
theorem dX0_beginRow_19 : decode cX0_beginRow 19 = .ok (.invokevirtual 34, 3) := by decide +kernel
theorem dX0_beginRow_22 : decode cX0_beginRow 22 = .ok (.aload_n 0, 1) := by decide +kernel
theorem dX0_beginRow_23 : decode cX0_beginRow 23 = .ok (.iload_n 1, 1) := by decide +kernel
theorem dX0_beginRow_24 : decode cX0_beginRow 24 = .ok (.iconst 3, 1) := by decide +kernel
theorem dX0_beginRow_25 : decode cX0_beginRow 25 = .ok (.iload 4, 2) := by decide +kernel
theorem dX0_beginRow_27 : decode cX0_beginRow 27 = .ok (.invokevirtual 34, 3) := by decide +kernel
theorem dX0_beginRow_30 : decode cX0_beginRow 30 = .ok (.aload_n 0, 1) := by decide +kernel
theorem dX0_beginRow_31 : decode cX0_beginRow 31 = .ok (.iload_n 1, 1) := by decide +kernel
theorem dX0_beginRow_32 : decode cX0_beginRow 32 = .ok (.iconst 4, 1) := by decide +kernel
theorem dX0_beginRow_33 : decode cX0_beginRow 33 = .ok (.iload_n 2, 1) := by decide +kernel
theorem dX0_beginRow_34 : decode cX0_beginRow 34 = .ok (.iload_n 3, 1) := by decide +kernel
theorem dX0_beginRow_35 : decode cX0_beginRow 35 = .ok (.iload 4, 2) := by decide +kernel
theorem dX0_beginRow_37 : decode cX0_beginRow 37 = .ok (.invokestatic 38, 3) := by decide +kernel
theorem dX0_beginRow_40 : decode cX0_beginRow 40 = .ok (.invokevirtual 34, 3) := by decide +kernel
theorem dX0_beginRow_43 : decode cX0_beginRow 43 = .ok (.aload_n 0, 1) := by decide +kernel
theorem dX0_beginRow_44 : decode cX0_beginRow 44 = .ok (.iload_n 1, 1) := by decide +kernel
theorem dX0_beginRow_45 : decode cX0_beginRow 45 = .ok (.iconst 5, 1) := by decide +kernel
theorem dX0_beginRow_46 : decode cX0_beginRow 46 = .ok (.iload 4, 2) := by decide +kernel
theorem dX0_beginRow_48 : decode cX0_beginRow 48 = .ok (.invokevirtual 34, 3) := by decide +kernel
theorem dX0_beginRow_51 : decode cX0_beginRow 51 = .ok (.return_, 1) := by decide +kernel
theorem dX0_hasOwn_0 : decode cX0_hasOwn 0 = .ok (.aload_n 0, 1) := by decide +kernel
theorem dX0_hasOwn_1 : decode cX0_hasOwn 1 = .ok (.iload_n 1, 1) := by decide +kernel
theorem dX0_hasOwn_2 : decode cX0_hasOwn 2 = .ok (.invokevirtual 42, 3) := by decide +kernel
theorem dX0_hasOwn_5 : decode cX0_hasOwn 5 = .ok (.ifCond .eq 16, 3) := by decide +kernel
theorem dX0_hasOwn_8 : decode cX0_hasOwn 8 = .ok (.aload_n 0, 1) := by decide +kernel
theorem dX0_hasOwn_9 : decode cX0_hasOwn 9 = .ok (.iload_n 1, 1) := by decide +kernel
theorem dX0_hasOwn_10 : decode cX0_hasOwn 10 = .ok (.iconst 3, 1) := by decide +kernel
theorem dX0_hasOwn_11 : decode cX0_hasOwn 11 = .ok (.invokevirtual 46, 3) := by decide +kernel
theorem dX0_hasOwn_14 : decode cX0_hasOwn 14 = .ok (.ifCond .le 7, 3) := by decide +kernel
theorem dX0_hasOwn_17 : decode cX0_hasOwn 17 = .ok (.iconst 1, 1) := by decide +kernel
theorem dX0_hasOwn_18 : decode cX0_hasOwn 18 = .ok (.goto 4, 3) := by decide +kernel
theorem dX0_hasOwn_21 : decode cX0_hasOwn 21 = .ok (.iconst 0, 1) := by decide +kernel
theorem dX0_hasOwn_22 : decode cX0_hasOwn 22 = .ok (.ireturn, 1) := by decide +kernel
theorem dX0_anyHasOwn_0 : decode cX0_anyHasOwn 0 = .ok (.iconst 0, 1) := by decide +kernel
theorem dX0_anyHasOwn_1 : decode cX0_anyHasOwn 1 = .ok (.istore_n 1, 1) := by decide +kernel
theorem dX0_anyHasOwn_2 : decode cX0_anyHasOwn 2 = .ok (.iconst 0, 1) := by decide +kernel
theorem dX0_anyHasOwn_3 : decode cX0_anyHasOwn 3 = .ok (.istore_n 2, 1) := by decide +kernel
theorem dX0_anyHasOwn_4 : decode cX0_anyHasOwn 4 = .ok (.iload_n 2, 1) := by decide +kernel
theorem dX0_anyHasOwn_5 : decode cX0_anyHasOwn 5 = .ok (.iconst 4, 1) := by decide +kernel
theorem dX0_anyHasOwn_6 : decode cX0_anyHasOwn 6 = .ok (.if_icmp .ge 27, 3) := by decide +kernel
theorem dX0_anyHasOwn_9 : decode cX0_anyHasOwn 9 = .ok (.iload_n 1, 1) := by decide +kernel
theorem dX0_anyHasOwn_10 : decode cX0_anyHasOwn 10 = .ok (.ifCond .ne 11, 3) := by decide +kernel
theorem dX0_anyHasOwn_13 : decode cX0_anyHasOwn 13 = .ok (.aload_n 0, 1) := by decide +kernel
theorem dX0_anyHasOwn_14 : decode cX0_anyHasOwn 14 = .ok (.iload_n 2, 1) := by decide +kernel
theorem dX0_anyHasOwn_15 : decode cX0_anyHasOwn 15 = .ok (.invokevirtual 50, 3) := by decide +kernel
theorem dX0_anyHasOwn_18 : decode cX0_anyHasOwn 18 = .ok (.ifCond .eq 7, 3) := by decide +kernel
theorem dX0_anyHasOwn_21 : decode cX0_anyHasOwn 21 = .ok (.iconst 1, 1) := by decide +kernel
theorem dX0_anyHasOwn_22 : decode cX0_anyHasOwn 22 = .ok (.goto 4, 3) := by decide +kernel
theorem dX0_anyHasOwn_25 : decode cX0_anyHasOwn 25 = .ok (.iconst 0, 1) := by decide +kernel
theorem dX0_anyHasOwn_26 : decode cX0_anyHasOwn 26 = .ok (.istore_n 1, 1) := by decide +kernel
theorem dX0_anyHasOwn_27 : decode cX0_anyHasOwn 27 = .ok (.iinc 2 1, 3) := by decide +kernel
theorem dX0_anyHasOwn_30 : decode cX0_anyHasOwn 30 = .ok (.goto (-26), 3) := by decide +kernel
theorem dX0_anyHasOwn_33 : decode cX0_anyHasOwn 33 = .ok (.iload_n 1, 1) := by decide +kernel
theorem dX0_anyHasOwn_34 : decode cX0_anyHasOwn 34 = .ok (.ireturn, 1) := by decide +kernel
theorem dX0_passOf_0 : decode cX0_passOf 0 = .ok (.aload_n 0, 1) := by decide +kernel
theorem dX0_passOf_1 : decode cX0_passOf 1 = .ok (.iload_n 1, 1) := by decide +kernel
theorem dX0_passOf_2 : decode cX0_passOf 2 = .ok (.iconst 0, 1) := by decide +kernel
theorem dX0_passOf_3 : decode cX0_passOf 3 = .ok (.invokevirtual 46, 3) := by decide +kernel
theorem dX0_passOf_6 : decode cX0_passOf 6 = .ok (.aload_n 0, 1) := by decide +kernel
theorem dX0_passOf_7 : decode cX0_passOf 7 = .ok (.iload_n 1, 1) := by decide +kernel
theorem dX0_passOf_8 : decode cX0_passOf 8 = .ok (.iconst 1, 1) := by decide +kernel
theorem dX0_passOf_9 : decode cX0_passOf 9 = .ok (.invokevirtual 46, 3) := by decide +kernel
theorem dX0_passOf_12 : decode cX0_passOf 12 = .ok (.iload_n 2, 1) := by decide +kernel
theorem dX0_passOf_13 : decode cX0_passOf 13 = .ok (.invokestatic 38, 3) := by decide +kernel
theorem dX0_passOf_16 : decode cX0_passOf 16 = .ok (.ireturn, 1) := by decide +kernel
theorem dX0_fitOf_0 : decode cX0_fitOf 0 = .ok (.aload_n 0, 1) := by decide +kernel
theorem dX0_fitOf_1 : decode cX0_fitOf 1 = .ok (.getfield 11, 3) := by decide +kernel
theorem dX0_fitOf_4 : decode cX0_fitOf 4 = .ok (.iconst 1, 1) := by decide +kernel
theorem dX0_fitOf_5 : decode cX0_fitOf 5 = .ok (.iaload, 1) := by decide +kernel
theorem dX0_fitOf_6 : decode cX0_fitOf 6 = .ok (.aload_n 0, 1) := by decide +kernel
theorem dX0_fitOf_7 : decode cX0_fitOf 7 = .ok (.iload_n 1, 1) := by decide +kernel
theorem dX0_fitOf_8 : decode cX0_fitOf 8 = .ok (.iconst 5, 1) := by decide +kernel
theorem dX0_fitOf_9 : decode cX0_fitOf 9 = .ok (.invokevirtual 46, 3) := by decide +kernel
theorem dX0_fitOf_12 : decode cX0_fitOf 12 = .ok (.invokestatic 53, 3) := by decide +kernel
theorem dX0_fitOf_15 : decode cX0_fitOf 15 = .ok (.istore_n 3, 1) := by decide +kernel
theorem dX0_fitOf_16 : decode cX0_fitOf 16 = .ok (.aload_n 0, 1) := by decide +kernel
theorem dX0_fitOf_17 : decode cX0_fitOf 17 = .ok (.iload_n 1, 1) := by decide +kernel
theorem dX0_fitOf_18 : decode cX0_fitOf 18 = .ok (.iconst 1, 1) := by decide +kernel
theorem dX0_fitOf_19 : decode cX0_fitOf 19 = .ok (.invokevirtual 46, 3) := by decide +kernel
theorem dX0_fitOf_22 : decode cX0_fitOf 22 = .ok (.istore 4, 2) := by decide +kernel
theorem dX0_fitOf_24 : decode cX0_fitOf 24 = .ok (.aload_n 0, 1) := by decide +kernel
theorem dX0_fitOf_25 : decode cX0_fitOf 25 = .ok (.iload_n 1, 1) := by decide +kernel
theorem dX0_fitOf_26 : decode cX0_fitOf 26 = .ok (.iconst 4, 1) := by decide +kernel
theorem dX0_fitOf_27 : decode cX0_fitOf 27 = .ok (.invokevirtual 46, 3) := by decide +kernel
theorem dX0_fitOf_30 : decode cX0_fitOf 30 = .ok (.istore 5, 2) := by decide +kernel
theorem dX0_fitOf_32 : decode cX0_fitOf 32 = .ok (.iload_n 2, 1) := by decide +kernel
theorem dX0_fitOf_33 : decode cX0_fitOf 33 = .ok (.istore 6, 2) := by decide +kernel
theorem dX0_fitOf_35 : decode cX0_fitOf 35 = .ok (.iconst 1, 1) := by decide +kernel
theorem dX0_fitOf_36 : decode cX0_fitOf 36 = .ok (.istore 7, 2) := by decide +kernel
theorem dX0_fitOf_38 : decode cX0_fitOf 38 = .ok (.iload 7, 2) := by decide +kernel
theorem dX0_fitOf_40 : decode cX0_fitOf 40 = .ok (.iload_n 3, 1) := by decide +kernel
theorem dX0_fitOf_41 : decode cX0_fitOf 41 = .ok (.if_icmp .gt 29, 3) := by decide +kernel
theorem dX0_fitOf_44 : decode cX0_fitOf 44 = .ok (.iload 6, 2) := by decide +kernel
theorem dX0_fitOf_46 : decode cX0_fitOf 46 = .ok (.iload 4, 2) := by decide +kernel
theorem dX0_fitOf_48 : decode cX0_fitOf 48 = .ok (.iconst 1, 1) := by decide +kernel
theorem dX0_fitOf_49 : decode cX0_fitOf 49 = .ok (.invokestatic 38, 3) := by decide +kernel
theorem dX0_fitOf_52 : decode cX0_fitOf 52 = .ok (.istore 6, 2) := by decide +kernel
theorem dX0_fitOf_54 : decode cX0_fitOf 54 = .ok (.iload 6, 2) := by decide +kernel
theorem dX0_fitOf_56 : decode cX0_fitOf 56 = .ok (.iload 5, 2) := by decide +kernel
theorem dX0_fitOf_58 : decode cX0_fitOf 58 = .ok (.if_icmp .ne 6, 3) := by decide +kernel
theorem dX0_fitOf_61 : decode cX0_fitOf 61 = .ok (.iload 7, 2) := by decide +kernel
theorem dX0_fitOf_63 : decode cX0_fitOf 63 = .ok (.ireturn, 1) := by decide +kernel
theorem dX0_fitOf_64 : decode cX0_fitOf 64 = .ok (.iinc 7 1, 3) := by decide +kernel
theorem dX0_fitOf_67 : decode cX0_fitOf 67 = .ok (.goto (-29), 3) := by decide +kernel
theorem dX0_fitOf_70 : decode cX0_fitOf 70 = .ok (.iconst 0, 1) := by decide +kernel
theorem dX0_fitOf_71 : decode cX0_fitOf 71 = .ok (.ireturn, 1) := by decide +kernel
theorem dX0_bring_0 : decode cX0_bring 0 = .ok (.aload_n 0, 1) := by decide +kernel
theorem dX0_bring_1 : decode cX0_bring 1 = .ok (.getfield 11, 3) := by decide +kernel
theorem dX0_bring_4 : decode cX0_bring 4 = .ok (.iconst 2, 1) := by decide +kernel
theorem dX0_bring_5 : decode cX0_bring 5 = .ok (.sipush 1000, 3) := by decide +kernel
theorem dX0_bring_8 : decode cX0_bring 8 = .ok (.iload_n 1, 1) := by decide +kernel
theorem dX0_bring_9 : decode cX0_bring 9 = .ok (.imul, 1) := by decide +kernel
theorem dX0_bring_10 : decode cX0_bring 10 = .ok (.iload_n 2, 1) := by decide +kernel
theorem dX0_bring_11 : decode cX0_bring 11 = .ok (.iadd, 1) := by decide +kernel
theorem dX0_bring_12 : decode cX0_bring 12 = .ok (.iastore, 1) := by decide +kernel
theorem dX0_bring_13 : decode cX0_bring 13 = .ok (.aload_n 0, 1) := by decide +kernel
theorem dX0_bring_14 : decode cX0_bring 14 = .ok (.iload_n 1, 1) := by decide +kernel
theorem dX0_bring_15 : decode cX0_bring 15 = .ok (.iload_n 2, 1) := by decide +kernel
theorem dX0_bring_16 : decode cX0_bring 16 = .ok (.invokevirtual 58, 3) := by decide +kernel
theorem dX0_bring_19 : decode cX0_bring 19 = .ok (.istore_n 3, 1) := by decide +kernel
theorem dX0_bring_20 : decode cX0_bring 20 = .ok (.iload_n 3, 1) := by decide +kernel
theorem dX0_bring_21 : decode cX0_bring 21 = .ok (.ifCond .le 24, 3) := by decide +kernel
theorem dX0_bring_24 : decode cX0_bring 24 = .ok (.aload_n 0, 1) := by decide +kernel
theorem dX0_bring_25 : decode cX0_bring 25 = .ok (.iload_n 1, 1) := by decide +kernel
theorem dX0_bring_26 : decode cX0_bring 26 = .ok (.iconst 4, 1) := by decide +kernel
theorem dX0_bring_27 : decode cX0_bring 27 = .ok (.iload_n 2, 1) := by decide +kernel
theorem dX0_bring_28 : decode cX0_bring 28 = .ok (.invokevirtual 34, 3) := by decide +kernel
theorem dX0_bring_31 : decode cX0_bring 31 = .ok (.aload_n 0, 1) := by decide +kernel
theorem dX0_bring_32 : decode cX0_bring 32 = .ok (.iload_n 1, 1) := by decide +kernel
theorem dX0_bring_33 : decode cX0_bring 33 = .ok (.iconst 5, 1) := by decide +kernel
theorem dX0_bring_34 : decode cX0_bring 34 = .ok (.aload_n 0, 1) := by decide +kernel
theorem dX0_bring_35 : decode cX0_bring 35 = .ok (.iload_n 1, 1) := by decide +kernel
theorem dX0_bring_36 : decode cX0_bring 36 = .ok (.iconst 5, 1) := by decide +kernel
theorem dX0_bring_37 : decode cX0_bring 37 = .ok (.invokevirtual 46, 3) := by decide +kernel
theorem dX0_bring_40 : decode cX0_bring 40 = .ok (.iload_n 3, 1) := by decide +kernel
theorem dX0_bring_41 : decode cX0_bring 41 = .ok (.isub, 1) := by decide +kernel
theorem dX0_bring_42 : decode cX0_bring 42 = .ok (.invokevirtual 34, 3) := by decide +kernel
theorem dX0_bring_45 : decode cX0_bring 45 = .ok (.iload_n 3, 1) := by decide +kernel
theorem dX0_bring_46 : decode cX0_bring 46 = .ok (.ireturn, 1) := by decide +kernel
theorem dX0_spendPass_0 : decode cX0_spendPass 0 = .ok (.aload_n 0, 1) := by decide +kernel
theorem dX0_spendPass_1 : decode cX0_spendPass 1 = .ok (.iload_n 1, 1) := by decide +kernel
theorem dX0_spendPass_2 : decode cX0_spendPass 2 = .ok (.invokevirtual 50, 3) := by decide +kernel
theorem dX0_spendPass_5 : decode cX0_spendPass 5 = .ok (.istore_n 2, 1) := by decide +kernel
theorem dX0_spendPass_6 : decode cX0_spendPass 6 = .ok (.iload_n 2, 1) := by decide +kernel
theorem dX0_spendPass_7 : decode cX0_spendPass 7 = .ok (.ifCond .eq 17, 3) := by decide +kernel
theorem dX0_spendPass_10 : decode cX0_spendPass 10 = .ok (.aload_n 0, 1) := by decide +kernel
theorem dX0_spendPass_11 : decode cX0_spendPass 11 = .ok (.iload_n 1, 1) := by decide +kernel
theorem dX0_spendPass_12 : decode cX0_spendPass 12 = .ok (.iconst 3, 1) := by decide +kernel
theorem dX0_spendPass_13 : decode cX0_spendPass 13 = .ok (.aload_n 0, 1) := by decide +kernel
theorem dX0_spendPass_14 : decode cX0_spendPass 14 = .ok (.iload_n 1, 1) := by decide +kernel
theorem dX0_spendPass_15 : decode cX0_spendPass 15 = .ok (.iconst 3, 1) := by decide +kernel
theorem dX0_spendPass_16 : decode cX0_spendPass 16 = .ok (.invokevirtual 46, 3) := by decide +kernel
theorem dX0_spendPass_19 : decode cX0_spendPass 19 = .ok (.iconst 1, 1) := by decide +kernel
theorem dX0_spendPass_20 : decode cX0_spendPass 20 = .ok (.isub, 1) := by decide +kernel
theorem dX0_spendPass_21 : decode cX0_spendPass 21 = .ok (.invokevirtual 34, 3) := by decide +kernel
theorem dX0_spendPass_24 : decode cX0_spendPass 24 = .ok (.iload_n 2, 1) := by decide +kernel
theorem dX0_spendPass_25 : decode cX0_spendPass 25 = .ok (.ireturn, 1) := by decide +kernel
theorem dX0_sendPass_0 : decode cX0_sendPass 0 = .ok (.aload_n 0, 1) := by decide +kernel
theorem dX0_sendPass_1 : decode cX0_sendPass 1 = .ok (.iload_n 1, 1) := by decide +kernel
theorem dX0_sendPass_2 : decode cX0_sendPass 2 = .ok (.invokevirtual 61, 3) := by decide +kernel
theorem dX0_sendPass_5 : decode cX0_sendPass 5 = .ok (.ifCond .eq 22, 3) := by decide +kernel
theorem dX0_sendPass_8 : decode cX0_sendPass 8 = .ok (.aload_n 0, 1) := by decide +kernel
theorem dX0_sendPass_9 : decode cX0_sendPass 9 = .ok (.iload_n 1, 1) := by decide +kernel
theorem dX0_sendPass_10 : decode cX0_sendPass 10 = .ok (.aload_n 0, 1) := by decide +kernel
theorem dX0_sendPass_11 : decode cX0_sendPass 11 = .ok (.iload_n 1, 1) := by decide +kernel
theorem dX0_sendPass_12 : decode cX0_sendPass 12 = .ok (.aload_n 0, 1) := by decide +kernel
theorem dX0_sendPass_13 : decode cX0_sendPass 13 = .ok (.iload_n 1, 1) := by decide +kernel
theorem dX0_sendPass_14 : decode cX0_sendPass 14 = .ok (.iconst 3, 1) := by decide +kernel
theorem dX0_sendPass_15 : decode cX0_sendPass 15 = .ok (.invokevirtual 46, 3) := by decide +kernel
theorem dX0_sendPass_18 : decode cX0_sendPass 18 = .ok (.invokevirtual 64, 3) := by decide +kernel
theorem dX0_sendPass_21 : decode cX0_sendPass 21 = .ok (.invokevirtual 67, 3) := by decide +kernel
theorem dX0_sendPass_24 : decode cX0_sendPass 24 = .ok (.goto 4, 3) := by decide +kernel
theorem dX0_sendPass_27 : decode cX0_sendPass 27 = .ok (.iconst 0, 1) := by decide +kernel
theorem dX0_sendPass_28 : decode cX0_sendPass 28 = .ok (.ireturn, 1) := by decide +kernel
theorem dX0_isInStep_0 : decode cX0_isInStep 0 = .ok (.aload_n 0, 1) := by decide +kernel
theorem dX0_isInStep_1 : decode cX0_isInStep 1 = .ok (.iload_n 1, 1) := by decide +kernel
theorem dX0_isInStep_2 : decode cX0_isInStep 2 = .ok (.invokevirtual 50, 3) := by decide +kernel
theorem dX0_isInStep_5 : decode cX0_isInStep 5 = .ok (.ifCond .eq 28, 3) := by decide +kernel
theorem dX0_isInStep_8 : decode cX0_isInStep 8 = .ok (.aload_n 0, 1) := by decide +kernel
theorem dX0_isInStep_9 : decode cX0_isInStep 9 = .ok (.iload_n 1, 1) := by decide +kernel
theorem dX0_isInStep_10 : decode cX0_isInStep 10 = .ok (.aload_n 0, 1) := by decide +kernel
theorem dX0_isInStep_11 : decode cX0_isInStep 11 = .ok (.iload_n 1, 1) := by decide +kernel
theorem dX0_isInStep_12 : decode cX0_isInStep 12 = .ok (.aload_n 0, 1) := by decide +kernel
theorem dX0_isInStep_13 : decode cX0_isInStep 13 = .ok (.iload_n 1, 1) := by decide +kernel
theorem dX0_isInStep_14 : decode cX0_isInStep 14 = .ok (.iconst 3, 1) := by decide +kernel
theorem dX0_isInStep_15 : decode cX0_isInStep 15 = .ok (.invokevirtual 46, 3) := by decide +kernel
theorem dX0_isInStep_18 : decode cX0_isInStep 18 = .ok (.iconst 1, 1) := by decide +kernel
theorem dX0_isInStep_19 : decode cX0_isInStep 19 = .ok (.isub, 1) := by decide +kernel
theorem dX0_isInStep_20 : decode cX0_isInStep 20 = .ok (.invokevirtual 64, 3) := by decide +kernel
theorem dX0_isInStep_23 : decode cX0_isInStep 23 = .ok (.invokevirtual 58, 3) := by decide +kernel
theorem dX0_isInStep_26 : decode cX0_isInStep 26 = .ok (.ifCond .le 7, 3) := by decide +kernel
theorem dX0_isInStep_29 : decode cX0_isInStep 29 = .ok (.iconst 1, 1) := by decide +kernel
theorem dX0_isInStep_30 : decode cX0_isInStep 30 = .ok (.goto 4, 3) := by decide +kernel
theorem dX0_isInStep_33 : decode cX0_isInStep 33 = .ok (.iconst 0, 1) := by decide +kernel
theorem dX0_isInStep_34 : decode cX0_isInStep 34 = .ok (.ireturn, 1) := by decide +kernel
theorem dX0_isWarned_0 : decode cX0_isWarned 0 = .ok (.aload_n 0, 1) := by decide +kernel
theorem dX0_isWarned_1 : decode cX0_isWarned 1 = .ok (.iload_n 1, 1) := by decide +kernel
theorem dX0_isWarned_2 : decode cX0_isWarned 2 = .ok (.iconst 5, 1) := by decide +kernel
theorem dX0_isWarned_3 : decode cX0_isWarned 3 = .ok (.invokevirtual 46, 3) := by decide +kernel
theorem dX0_isWarned_6 : decode cX0_isWarned 6 = .ok (.iconst 3, 1) := by decide +kernel
theorem dX0_isWarned_7 : decode cX0_isWarned 7 = .ok (.if_icmp .gt 7, 3) := by decide +kernel
theorem dX0_isWarned_10 : decode cX0_isWarned 10 = .ok (.iconst 1, 1) := by decide +kernel
theorem dX0_isWarned_11 : decode cX0_isWarned 11 = .ok (.goto 4, 3) := by decide +kernel
theorem dX0_isWarned_14 : decode cX0_isWarned 14 = .ok (.iconst 0, 1) := by decide +kernel
theorem dX0_isWarned_15 : decode cX0_isWarned 15 = .ok (.ireturn, 1) := by decide +kernel
theorem dX0_gapOf_0 : decode cX0_gapOf 0 = .ok (.aload_n 0, 1) := by decide +kernel
theorem dX0_gapOf_1 : decode cX0_gapOf 1 = .ok (.iload_n 1, 1) := by decide +kernel
theorem dX0_gapOf_2 : decode cX0_gapOf 2 = .ok (.iconst 3, 1) := by decide +kernel
theorem dX0_gapOf_3 : decode cX0_gapOf 3 = .ok (.invokevirtual 46, 3) := by decide +kernel
theorem dX0_gapOf_6 : decode cX0_gapOf 6 = .ok (.istore_n 2, 1) := by decide +kernel
theorem dX0_gapOf_7 : decode cX0_gapOf 7 = .ok (.iconst 0, 1) := by decide +kernel
theorem dX0_gapOf_8 : decode cX0_gapOf 8 = .ok (.istore_n 3, 1) := by decide +kernel
theorem dX0_gapOf_9 : decode cX0_gapOf 9 = .ok (.iload_n 3, 1) := by decide +kernel
theorem dX0_gapOf_10 : decode cX0_gapOf 10 = .ok (.iload_n 2, 1) := by decide +kernel
theorem dX0_gapOf_11 : decode cX0_gapOf 11 = .ok (.if_icmp .ge 29, 3) := by decide +kernel
theorem dX0_gapOf_14 : decode cX0_gapOf 14 = .ok (.aload_n 0, 1) := by decide +kernel
theorem dX0_gapOf_15 : decode cX0_gapOf 15 = .ok (.iload_n 1, 1) := by decide +kernel
theorem dX0_gapOf_16 : decode cX0_gapOf 16 = .ok (.aload_n 0, 1) := by decide +kernel
theorem dX0_gapOf_17 : decode cX0_gapOf 17 = .ok (.iload_n 1, 1) := by decide +kernel
theorem dX0_gapOf_18 : decode cX0_gapOf 18 = .ok (.iload_n 3, 1) := by decide +kernel
theorem dX0_gapOf_19 : decode cX0_gapOf 19 = .ok (.invokevirtual 64, 3) := by decide +kernel
theorem dX0_gapOf_22 : decode cX0_gapOf 22 = .ok (.invokevirtual 58, 3) := by decide +kernel
theorem dX0_gapOf_25 : decode cX0_gapOf 25 = .ok (.ifCond .le 9, 3) := by decide +kernel
theorem dX0_gapOf_28 : decode cX0_gapOf 28 = .ok (.iload_n 2, 1) := by decide +kernel
theorem dX0_gapOf_29 : decode cX0_gapOf 29 = .ok (.iconst 1, 1) := by decide +kernel
theorem dX0_gapOf_30 : decode cX0_gapOf 30 = .ok (.isub, 1) := by decide +kernel
theorem dX0_gapOf_31 : decode cX0_gapOf 31 = .ok (.iload_n 3, 1) := by decide +kernel
theorem dX0_gapOf_32 : decode cX0_gapOf 32 = .ok (.isub, 1) := by decide +kernel
theorem dX0_gapOf_33 : decode cX0_gapOf 33 = .ok (.ireturn, 1) := by decide +kernel
theorem dX0_gapOf_34 : decode cX0_gapOf 34 = .ok (.iinc 3 1, 3) := by decide +kernel
theorem dX0_gapOf_37 : decode cX0_gapOf 37 = .ok (.goto (-28), 3) := by decide +kernel
theorem dX0_gapOf_40 : decode cX0_gapOf 40 = .ok (.bipush (-9), 2) := by decide +kernel
theorem dX0_gapOf_42 : decode cX0_gapOf 42 = .ok (.ireturn, 1) := by decide +kernel
theorem dX0_countFitting_0 : decode cX0_countFitting 0 = .ok (.iconst 0, 1) := by decide +kernel
theorem dX0_countFitting_1 : decode cX0_countFitting 1 = .ok (.istore_n 2, 1) := by decide +kernel
theorem dX0_countFitting_2 : decode cX0_countFitting 2 = .ok (.iconst 0, 1) := by decide +kernel
theorem dX0_countFitting_3 : decode cX0_countFitting 3 = .ok (.istore_n 3, 1) := by decide +kernel
theorem dX0_countFitting_4 : decode cX0_countFitting 4 = .ok (.iload_n 3, 1) := by decide +kernel
theorem dX0_countFitting_5 : decode cX0_countFitting 5 = .ok (.sipush 251, 3) := by decide +kernel
theorem dX0_countFitting_8 : decode cX0_countFitting 8 = .ok (.if_icmp .ge 21, 3) := by decide +kernel
theorem dX0_countFitting_11 : decode cX0_countFitting 11 = .ok (.aload_n 0, 1) := by decide +kernel
theorem dX0_countFitting_12 : decode cX0_countFitting 12 = .ok (.iload_n 1, 1) := by decide +kernel
theorem dX0_countFitting_13 : decode cX0_countFitting 13 = .ok (.iload_n 3, 1) := by decide +kernel
theorem dX0_countFitting_14 : decode cX0_countFitting 14 = .ok (.invokevirtual 58, 3) := by decide +kernel
theorem dX0_countFitting_17 : decode cX0_countFitting 17 = .ok (.ifCond .le 6, 3) := by decide +kernel
theorem dX0_countFitting_20 : decode cX0_countFitting 20 = .ok (.iinc 2 1, 3) := by decide +kernel
theorem dX0_countFitting_23 : decode cX0_countFitting 23 = .ok (.iinc 3 1, 3) := by decide +kernel
theorem dX0_countFitting_26 : decode cX0_countFitting 26 = .ok (.goto (-22), 3) := by decide +kernel
theorem dX0_countFitting_29 : decode cX0_countFitting 29 = .ok (.iload_n 2, 1) := by decide +kernel
theorem dX0_countFitting_30 : decode cX0_countFitting 30 = .ok (.ireturn, 1) := by decide +kernel
theorem dX0_leastFitting_0 : decode cX0_leastFitting 0 = .ok (.iconst 0, 1) := by decide +kernel
theorem dX0_leastFitting_1 : decode cX0_leastFitting 1 = .ok (.istore_n 2, 1) := by decide +kernel
theorem dX0_leastFitting_2 : decode cX0_leastFitting 2 = .ok (.iload_n 2, 1) := by decide +kernel
theorem dX0_leastFitting_3 : decode cX0_leastFitting 3 = .ok (.sipush 251, 3) := by decide +kernel
theorem dX0_leastFitting_6 : decode cX0_leastFitting 6 = .ok (.if_icmp .ge 20, 3) := by decide +kernel
theorem dX0_leastFitting_9 : decode cX0_leastFitting 9 = .ok (.aload_n 0, 1) := by decide +kernel
theorem dX0_leastFitting_10 : decode cX0_leastFitting 10 = .ok (.iload_n 1, 1) := by decide +kernel
theorem dX0_leastFitting_11 : decode cX0_leastFitting 11 = .ok (.iload_n 2, 1) := by decide +kernel
theorem dX0_leastFitting_12 : decode cX0_leastFitting 12 = .ok (.invokevirtual 58, 3) := by decide +kernel
theorem dX0_leastFitting_15 : decode cX0_leastFitting 15 = .ok (.ifCond .le 5, 3) := by decide +kernel
theorem dX0_leastFitting_18 : decode cX0_leastFitting 18 = .ok (.iload_n 2, 1) := by decide +kernel
theorem dX0_leastFitting_19 : decode cX0_leastFitting 19 = .ok (.ireturn, 1) := by decide +kernel
theorem dX0_leastFitting_20 : decode cX0_leastFitting 20 = .ok (.iinc 2 1, 3) := by decide +kernel
theorem dX0_leastFitting_23 : decode cX0_leastFitting 23 = .ok (.goto (-21), 3) := by decide +kernel
theorem dX0_leastFitting_26 : decode cX0_leastFitting 26 = .ok (.bipush (-9), 2) := by decide +kernel
theorem dX0_leastFitting_28 : decode cX0_leastFitting 28 = .ok (.ireturn, 1) := by decide +kernel
theorem dX0_countFitted_0 : decode cX0_countFitted 0 = .ok (.iconst 0, 1) := by decide +kernel
theorem dX0_countFitted_1 : decode cX0_countFitted 1 = .ok (.istore_n 2, 1) := by decide +kernel
theorem dX0_countFitted_2 : decode cX0_countFitted 2 = .ok (.iconst 0, 1) := by decide +kernel
theorem dX0_countFitted_3 : decode cX0_countFitted 3 = .ok (.istore_n 3, 1) := by decide +kernel
theorem dX0_countFitted_4 : decode cX0_countFitted 4 = .ok (.iload_n 3, 1) := by decide +kernel
theorem dX0_countFitted_5 : decode cX0_countFitted 5 = .ok (.iconst 4, 1) := by decide +kernel
theorem dX0_countFitted_6 : decode cX0_countFitted 6 = .ok (.if_icmp .ge 29, 3) := by decide +kernel
theorem dX0_countFitted_9 : decode cX0_countFitted 9 = .ok (.aload_n 0, 1) := by decide +kernel
theorem dX0_countFitted_10 : decode cX0_countFitted 10 = .ok (.iload_n 3, 1) := by decide +kernel
theorem dX0_countFitted_11 : decode cX0_countFitted 11 = .ok (.invokevirtual 42, 3) := by decide +kernel
theorem dX0_countFitted_14 : decode cX0_countFitted 14 = .ok (.ifCond .eq 15, 3) := by decide +kernel
theorem dX0_countFitted_17 : decode cX0_countFitted 17 = .ok (.aload_n 0, 1) := by decide +kernel
theorem dX0_countFitted_18 : decode cX0_countFitted 18 = .ok (.iload_n 3, 1) := by decide +kernel
theorem dX0_countFitted_19 : decode cX0_countFitted 19 = .ok (.iload_n 1, 1) := by decide +kernel
theorem dX0_countFitted_20 : decode cX0_countFitted 20 = .ok (.invokevirtual 58, 3) := by decide +kernel
theorem dX0_countFitted_23 : decode cX0_countFitted 23 = .ok (.ifCond .le 6, 3) := by decide +kernel
theorem dX0_countFitted_26 : decode cX0_countFitted 26 = .ok (.iinc 2 1, 3) := by decide +kernel
theorem dX0_countFitted_29 : decode cX0_countFitted 29 = .ok (.iinc 3 1, 3) := by decide +kernel
theorem dX0_countFitted_32 : decode cX0_countFitted 32 = .ok (.goto (-28), 3) := by decide +kernel
theorem dX0_countFitted_35 : decode cX0_countFitted 35 = .ok (.iload_n 2, 1) := by decide +kernel
theorem dX0_countFitted_36 : decode cX0_countFitted 36 = .ok (.ireturn, 1) := by decide +kernel
theorem dX0_leastStolen_0 : decode cX0_leastStolen 0 = .ok (.bipush (-9), 2) := by decide +kernel
theorem dX0_leastStolen_2 : decode cX0_leastStolen 2 = .ok (.istore_n 2, 1) := by decide +kernel
theorem dX0_leastStolen_3 : decode cX0_leastStolen 3 = .ok (.iconst 0, 1) := by decide +kernel
theorem dX0_leastStolen_4 : decode cX0_leastStolen 4 = .ok (.istore_n 3, 1) := by decide +kernel
theorem dX0_leastStolen_5 : decode cX0_leastStolen 5 = .ok (.iload_n 3, 1) := by decide +kernel
theorem dX0_leastStolen_6 : decode cX0_leastStolen 6 = .ok (.bipush 8, 2) := by decide +kernel
theorem dX0_leastStolen_8 : decode cX0_leastStolen 8 = .ok (.if_icmp .ge 47, 3) := by decide +kernel
theorem dX0_leastStolen_11 : decode cX0_leastStolen 11 = .ok (.aload_n 0, 1) := by decide +kernel
theorem dX0_leastStolen_12 : decode cX0_leastStolen 12 = .ok (.iload_n 3, 1) := by decide +kernel
theorem dX0_leastStolen_13 : decode cX0_leastStolen 13 = .ok (.invokevirtual 70, 3) := by decide +kernel
theorem dX0_leastStolen_16 : decode cX0_leastStolen 16 = .ok (.istore 4, 2) := by decide +kernel
theorem dX0_leastStolen_18 : decode cX0_leastStolen 18 = .ok (.iload 4, 2) := by decide +kernel
theorem dX0_leastStolen_20 : decode cX0_leastStolen 20 = .ok (.bipush (-9), 2) := by decide +kernel
theorem dX0_leastStolen_22 : decode cX0_leastStolen 22 = .ok (.if_icmp .eq 27, 3) := by decide +kernel
theorem dX0_leastStolen_25 : decode cX0_leastStolen 25 = .ok (.iload 4, 2) := by decide +kernel
theorem dX0_leastStolen_27 : decode cX0_leastStolen 27 = .ok (.invokestatic 74, 3) := by decide +kernel
theorem dX0_leastStolen_30 : decode cX0_leastStolen 30 = .ok (.iload_n 1, 1) := by decide +kernel
theorem dX0_leastStolen_31 : decode cX0_leastStolen 31 = .ok (.if_icmp .ne 18, 3) := by decide +kernel
theorem dX0_leastStolen_34 : decode cX0_leastStolen 34 = .ok (.iload_n 2, 1) := by decide +kernel
theorem dX0_leastStolen_35 : decode cX0_leastStolen 35 = .ok (.aload_n 0, 1) := by decide +kernel
theorem dX0_leastStolen_36 : decode cX0_leastStolen 36 = .ok (.iload_n 1, 1) := by decide +kernel
theorem dX0_leastStolen_37 : decode cX0_leastStolen 37 = .ok (.iload 4, 2) := by decide +kernel
theorem dX0_leastStolen_39 : decode cX0_leastStolen 39 = .ok (.invokestatic 77, 3) := by decide +kernel
theorem dX0_leastStolen_42 : decode cX0_leastStolen 42 = .ok (.invokevirtual 80, 3) := by decide +kernel
theorem dX0_leastStolen_45 : decode cX0_leastStolen 45 = .ok (.invokestatic 83, 3) := by decide +kernel
theorem dX0_leastStolen_48 : decode cX0_leastStolen 48 = .ok (.istore_n 2, 1) := by decide +kernel
theorem dX0_leastStolen_49 : decode cX0_leastStolen 49 = .ok (.iinc 3 1, 3) := by decide +kernel
theorem dX0_leastStolen_52 : decode cX0_leastStolen 52 = .ok (.goto (-47), 3) := by decide +kernel
theorem dX0_leastStolen_55 : decode cX0_leastStolen 55 = .ok (.iload_n 2, 1) := by decide +kernel
theorem dX0_leastStolen_56 : decode cX0_leastStolen 56 = .ok (.ireturn, 1) := by decide +kernel
theorem dX0_leastFrom_0 : decode cX0_leastFrom 0 = .ok (.bipush (-9), 2) := by decide +kernel
theorem dX0_leastFrom_2 : decode cX0_leastFrom 2 = .ok (.istore_n 3, 1) := by decide +kernel
theorem dX0_leastFrom_3 : decode cX0_leastFrom 3 = .ok (.iload_n 2, 1) := by decide +kernel
theorem dX0_leastFrom_4 : decode cX0_leastFrom 4 = .ok (.istore 4, 2) := by decide +kernel
theorem dX0_leastFrom_6 : decode cX0_leastFrom 6 = .ok (.iconst 0, 1) := by decide +kernel
theorem dX0_leastFrom_7 : decode cX0_leastFrom 7 = .ok (.istore 5, 2) := by decide +kernel
theorem dX0_leastFrom_9 : decode cX0_leastFrom 9 = .ok (.iload 5, 2) := by decide +kernel
theorem dX0_leastFrom_11 : decode cX0_leastFrom 11 = .ok (.bipush 10, 2) := by decide +kernel
theorem dX0_leastFrom_13 : decode cX0_leastFrom 13 = .ok (.if_icmp .gt 40, 3) := by decide +kernel
theorem dX0_leastFrom_16 : decode cX0_leastFrom 16 = .ok (.aload_n 0, 1) := by decide +kernel
theorem dX0_leastFrom_17 : decode cX0_leastFrom 17 = .ok (.iload_n 1, 1) := by decide +kernel
theorem dX0_leastFrom_18 : decode cX0_leastFrom 18 = .ok (.iload 4, 2) := by decide +kernel
theorem dX0_leastFrom_20 : decode cX0_leastFrom 20 = .ok (.invokevirtual 58, 3) := by decide +kernel
theorem dX0_leastFrom_23 : decode cX0_leastFrom 23 = .ok (.ifCond .le 10, 3) := by decide +kernel
theorem dX0_leastFrom_26 : decode cX0_leastFrom 26 = .ok (.iload_n 3, 1) := by decide +kernel
theorem dX0_leastFrom_27 : decode cX0_leastFrom 27 = .ok (.iload 4, 2) := by decide +kernel
theorem dX0_leastFrom_29 : decode cX0_leastFrom 29 = .ok (.invokestatic 83, 3) := by decide +kernel
theorem dX0_leastFrom_32 : decode cX0_leastFrom 32 = .ok (.istore_n 3, 1) := by decide +kernel
theorem dX0_leastFrom_33 : decode cX0_leastFrom 33 = .ok (.iload 4, 2) := by decide +kernel
theorem dX0_leastFrom_35 : decode cX0_leastFrom 35 = .ok (.aload_n 0, 1) := by decide +kernel
theorem dX0_leastFrom_36 : decode cX0_leastFrom 36 = .ok (.iload_n 1, 1) := by decide +kernel
theorem dX0_leastFrom_37 : decode cX0_leastFrom 37 = .ok (.iconst 1, 1) := by decide +kernel
theorem dX0_leastFrom_38 : decode cX0_leastFrom 38 = .ok (.invokevirtual 46, 3) := by decide +kernel
theorem dX0_leastFrom_41 : decode cX0_leastFrom 41 = .ok (.iconst 1, 1) := by decide +kernel
theorem dX0_leastFrom_42 : decode cX0_leastFrom 42 = .ok (.invokestatic 38, 3) := by decide +kernel
theorem dX0_leastFrom_45 : decode cX0_leastFrom 45 = .ok (.istore 4, 2) := by decide +kernel
theorem dX0_leastFrom_47 : decode cX0_leastFrom 47 = .ok (.iinc 5 1, 3) := by decide +kernel
theorem dX0_leastFrom_50 : decode cX0_leastFrom 50 = .ok (.goto (-41), 3) := by decide +kernel
theorem dX0_leastFrom_53 : decode cX0_leastFrom 53 = .ok (.iload_n 3, 1) := by decide +kernel
theorem dX0_leastFrom_54 : decode cX0_leastFrom 54 = .ok (.ireturn, 1) := by decide +kernel
theorem dX0_lesser_0 : decode cX0_lesser 0 = .ok (.iload_n 0, 1) := by decide +kernel
theorem dX0_lesser_1 : decode cX0_lesser 1 = .ok (.bipush (-9), 2) := by decide +kernel
theorem dX0_lesser_3 : decode cX0_lesser 3 = .ok (.if_icmp .ne 5, 3) := by decide +kernel
theorem dX0_lesser_6 : decode cX0_lesser 6 = .ok (.iload_n 1, 1) := by decide +kernel
theorem dX0_lesser_7 : decode cX0_lesser 7 = .ok (.ireturn, 1) := by decide +kernel
theorem dX0_lesser_8 : decode cX0_lesser 8 = .ok (.iload_n 1, 1) := by decide +kernel
theorem dX0_lesser_9 : decode cX0_lesser 9 = .ok (.bipush (-9), 2) := by decide +kernel
theorem dX0_lesser_11 : decode cX0_lesser 11 = .ok (.if_icmp .ne 7, 3) := by decide +kernel
theorem dX0_lesser_14 : decode cX0_lesser 14 = .ok (.iload_n 0, 1) := by decide +kernel
theorem dX0_lesser_15 : decode cX0_lesser 15 = .ok (.goto 8, 3) := by decide +kernel
theorem dX0_lesser_18 : decode cX0_lesser 18 = .ok (.iload_n 0, 1) := by decide +kernel
theorem dX0_lesser_19 : decode cX0_lesser 19 = .ok (.iload_n 1, 1) := by decide +kernel
theorem dX0_lesser_20 : decode cX0_lesser 20 = .ok (.invokestatic 53, 3) := by decide +kernel
theorem dX0_lesser_23 : decode cX0_lesser 23 = .ok (.ireturn, 1) := by decide +kernel
theorem dX1_init_0 : decode cX1_init 0 = .ok (.aload_n 0, 1) := by decide +kernel
theorem dX1_init_1 : decode cX1_init 1 = .ok (.invokespecial 3, 3) := by decide +kernel
theorem dX1_init_4 : decode cX1_init 4 = .ok (.aload_n 0, 1) := by decide +kernel
theorem dX1_init_5 : decode cX1_init 5 = .ok (.bipush 6, 2) := by decide +kernel
theorem dX1_init_7 : decode cX1_init 7 = .ok (.newarray .int, 2) := by decide +kernel
theorem dX1_init_9 : decode cX1_init 9 = .ok (.putfield 11, 3) := by decide +kernel
theorem dX1_init_12 : decode cX1_init 12 = .ok (.aload_n 0, 1) := by decide +kernel
theorem dX1_init_13 : decode cX1_init 13 = .ok (.bipush 6, 2) := by decide +kernel
theorem dX1_init_15 : decode cX1_init 15 = .ok (.newarray .int, 2) := by decide +kernel
theorem dX1_init_17 : decode cX1_init 17 = .ok (.putfield 15, 3) := by decide +kernel
theorem dX1_init_20 : decode cX1_init 20 = .ok (.aload_n 0, 1) := by decide +kernel
theorem dX1_init_21 : decode cX1_init 21 = .ok (.bipush 6, 2) := by decide +kernel
theorem dX1_init_23 : decode cX1_init 23 = .ok (.newarray .int, 2) := by decide +kernel
theorem dX1_init_25 : decode cX1_init 25 = .ok (.putfield 18, 3) := by decide +kernel
theorem dX1_init_28 : decode cX1_init 28 = .ok (.aload_n 0, 1) := by decide +kernel
theorem dX1_init_29 : decode cX1_init 29 = .ok (.iconst 0, 1) := by decide +kernel
theorem dX1_init_30 : decode cX1_init 30 = .ok (.putfield 21, 3) := by decide +kernel
theorem dX1_init_33 : decode cX1_init 33 = .ok (.return_, 1) := by decide +kernel
theorem dX1_add_0 : decode cX1_add 0 = .ok (.aload_n 0, 1) := by decide +kernel
theorem dX1_add_1 : decode cX1_add 1 = .ok (.getfield 21, 3) := by decide +kernel
theorem dX1_add_4 : decode cX1_add 4 = .ok (.ifCond .lt 16, 3) := by decide +kernel
theorem dX1_add_7 : decode cX1_add 7 = .ok (.aload_n 0, 1) := by decide +kernel
theorem dX1_add_8 : decode cX1_add 8 = .ok (.getfield 21, 3) := by decide +kernel
theorem dX1_add_11 : decode cX1_add 11 = .ok (.bipush 6, 2) := by decide +kernel
theorem dX1_add_13 : decode cX1_add 13 = .ok (.if_icmp .ge 7, 3) := by decide +kernel
theorem dX1_add_16 : decode cX1_add 16 = .ok (.iconst 1, 1) := by decide +kernel
theorem dX1_add_17 : decode cX1_add 17 = .ok (.goto 4, 3) := by decide +kernel
theorem dX1_add_20 : decode cX1_add 20 = .ok (.iconst 0, 1) := by decide +kernel
theorem dX1_add_21 : decode cX1_add 21 = .ok (.istore 4, 2) := by decide +kernel
theorem dX1_add_23 : decode cX1_add 23 = .ok (.iload 4, 2) := by decide +kernel
theorem dX1_add_25 : decode cX1_add 25 = .ok (.ifCond .eq 43, 3) := by decide +kernel
theorem dX1_add_28 : decode cX1_add 28 = .ok (.aload_n 0, 1) := by decide +kernel
theorem dX1_add_29 : decode cX1_add 29 = .ok (.getfield 11, 3) := by decide +kernel
theorem dX1_add_32 : decode cX1_add 32 = .ok (.aload_n 0, 1) := by decide +kernel
theorem dX1_add_33 : decode cX1_add 33 = .ok (.getfield 21, 3) := by decide +kernel
theorem dX1_add_36 : decode cX1_add 36 = .ok (.iload_n 1, 1) := by decide +kernel
theorem dX1_add_37 : decode cX1_add 37 = .ok (.iastore, 1) := by decide +kernel
theorem dX1_add_38 : decode cX1_add 38 = .ok (.aload_n 0, 1) := by decide +kernel
theorem dX1_add_39 : decode cX1_add 39 = .ok (.getfield 15, 3) := by decide +kernel
theorem dX1_add_42 : decode cX1_add 42 = .ok (.aload_n 0, 1) := by decide +kernel
theorem dX1_add_43 : decode cX1_add 43 = .ok (.getfield 21, 3) := by decide +kernel
theorem dX1_add_46 : decode cX1_add 46 = .ok (.iload_n 2, 1) := by decide +kernel
theorem dX1_add_47 : decode cX1_add 47 = .ok (.iastore, 1) := by decide +kernel
theorem dX1_add_48 : decode cX1_add 48 = .ok (.aload_n 0, 1) := by decide +kernel
theorem dX1_add_49 : decode cX1_add 49 = .ok (.getfield 18, 3) := by decide +kernel
theorem dX1_add_52 : decode cX1_add 52 = .ok (.aload_n 0, 1) := by decide +kernel
theorem dX1_add_53 : decode cX1_add 53 = .ok (.getfield 21, 3) := by decide +kernel
theorem dX1_add_56 : decode cX1_add 56 = .ok (.iload_n 3, 1) := by decide +kernel
theorem dX1_add_57 : decode cX1_add 57 = .ok (.iastore, 1) := by decide +kernel
theorem dX1_add_58 : decode cX1_add 58 = .ok (.aload_n 0, 1) := by decide +kernel
theorem dX1_add_59 : decode cX1_add 59 = .ok (.dup, 1) := by decide +kernel
theorem dX1_add_60 : decode cX1_add 60 = .ok (.getfield 21, 3) := by decide +kernel
theorem dX1_add_63 : decode cX1_add 63 = .ok (.iconst 1, 1) := by decide +kernel
theorem dX1_add_64 : decode cX1_add 64 = .ok (.iadd, 1) := by decide +kernel
theorem dX1_add_65 : decode cX1_add 65 = .ok (.putfield 21, 3) := by decide +kernel
theorem dX1_add_68 : decode cX1_add 68 = .ok (.iload 4, 2) := by decide +kernel
theorem dX1_add_70 : decode cX1_add 70 = .ok (.ireturn, 1) := by decide +kernel
theorem dX1_countSeeds_0 : decode cX1_countSeeds 0 = .ok (.iconst 0, 1) := by decide +kernel
theorem dX1_countSeeds_1 : decode cX1_countSeeds 1 = .ok (.istore_n 2, 1) := by decide +kernel
theorem dX1_countSeeds_2 : decode cX1_countSeeds 2 = .ok (.iconst 0, 1) := by decide +kernel
theorem dX1_countSeeds_3 : decode cX1_countSeeds 3 = .ok (.istore_n 3, 1) := by decide +kernel
theorem dX1_countSeeds_4 : decode cX1_countSeeds 4 = .ok (.iload_n 3, 1) := by decide +kernel
theorem dX1_countSeeds_5 : decode cX1_countSeeds 5 = .ok (.sipush 251, 3) := by decide +kernel
theorem dX1_countSeeds_8 : decode cX1_countSeeds 8 = .ok (.if_icmp .ge 21, 3) := by decide +kernel
theorem dX1_countSeeds_11 : decode cX1_countSeeds 11 = .ok (.aload_n 0, 1) := by decide +kernel
theorem dX1_countSeeds_12 : decode cX1_countSeeds 12 = .ok (.iload_n 3, 1) := by decide +kernel
theorem dX1_countSeeds_13 : decode cX1_countSeeds 13 = .ok (.aload_n 1, 1) := by decide +kernel
theorem dX1_countSeeds_14 : decode cX1_countSeeds 14 = .ok (.invokevirtual 25, 3) := by decide +kernel
theorem dX1_countSeeds_17 : decode cX1_countSeeds 17 = .ok (.ifCond .eq 6, 3) := by decide +kernel
theorem dX1_countSeeds_20 : decode cX1_countSeeds 20 = .ok (.iinc 2 1, 3) := by decide +kernel
theorem dX1_countSeeds_23 : decode cX1_countSeeds 23 = .ok (.iinc 3 1, 3) := by decide +kernel
theorem dX1_countSeeds_26 : decode cX1_countSeeds 26 = .ok (.goto (-22), 3) := by decide +kernel
theorem dX1_countSeeds_29 : decode cX1_countSeeds 29 = .ok (.iload_n 2, 1) := by decide +kernel
theorem dX1_countSeeds_30 : decode cX1_countSeeds 30 = .ok (.ireturn, 1) := by decide +kernel
theorem dX1_leastSeed_0 : decode cX1_leastSeed 0 = .ok (.iconst 0, 1) := by decide +kernel
theorem dX1_leastSeed_1 : decode cX1_leastSeed 1 = .ok (.istore_n 2, 1) := by decide +kernel
theorem dX1_leastSeed_2 : decode cX1_leastSeed 2 = .ok (.iload_n 2, 1) := by decide +kernel
theorem dX1_leastSeed_3 : decode cX1_leastSeed 3 = .ok (.sipush 251, 3) := by decide +kernel
theorem dX1_leastSeed_6 : decode cX1_leastSeed 6 = .ok (.if_icmp .ge 20, 3) := by decide +kernel
theorem dX1_leastSeed_9 : decode cX1_leastSeed 9 = .ok (.aload_n 0, 1) := by decide +kernel
theorem dX1_leastSeed_10 : decode cX1_leastSeed 10 = .ok (.iload_n 2, 1) := by decide +kernel
theorem dX1_leastSeed_11 : decode cX1_leastSeed 11 = .ok (.aload_n 1, 1) := by decide +kernel
theorem dX1_leastSeed_12 : decode cX1_leastSeed 12 = .ok (.invokevirtual 25, 3) := by decide +kernel
theorem dX1_leastSeed_15 : decode cX1_leastSeed 15 = .ok (.ifCond .eq 5, 3) := by decide +kernel
theorem dX1_leastSeed_18 : decode cX1_leastSeed 18 = .ok (.iload_n 2, 1) := by decide +kernel
theorem dX1_leastSeed_19 : decode cX1_leastSeed 19 = .ok (.ireturn, 1) := by decide +kernel
theorem dX1_leastSeed_20 : decode cX1_leastSeed 20 = .ok (.iinc 2 1, 3) := by decide +kernel
theorem dX1_leastSeed_23 : decode cX1_leastSeed 23 = .ok (.goto (-21), 3) := by decide +kernel
theorem dX1_leastSeed_26 : decode cX1_leastSeed 26 = .ok (.bipush (-9), 2) := by decide +kernel
theorem dX1_leastSeed_28 : decode cX1_leastSeed 28 = .ok (.ireturn, 1) := by decide +kernel
theorem dX1_agrees_0 : decode cX1_agrees 0 = .ok (.iconst 0, 1) := by decide +kernel
theorem dX1_agrees_1 : decode cX1_agrees 1 = .ok (.istore_n 3, 1) := by decide +kernel
theorem dX1_agrees_2 : decode cX1_agrees 2 = .ok (.iload_n 3, 1) := by decide +kernel
theorem dX1_agrees_3 : decode cX1_agrees 3 = .ok (.aload_n 0, 1) := by decide +kernel
theorem dX1_agrees_4 : decode cX1_agrees 4 = .ok (.getfield 21, 3) := by decide +kernel
theorem dX1_agrees_7 : decode cX1_agrees 7 = .ok (.if_icmp .ge 64, 3) := by decide +kernel
theorem dX1_agrees_10 : decode cX1_agrees 10 = .ok (.iload_n 3, 1) := by decide +kernel
theorem dX1_agrees_11 : decode cX1_agrees 11 = .ok (.bipush 6, 2) := by decide +kernel
theorem dX1_agrees_13 : decode cX1_agrees 13 = .ok (.if_icmp .ge 58, 3) := by decide +kernel
theorem dX1_agrees_16 : decode cX1_agrees 16 = .ok (.aload_n 2, 1) := by decide +kernel
theorem dX1_agrees_17 : decode cX1_agrees 17 = .ok (.aload_n 0, 1) := by decide +kernel
theorem dX1_agrees_18 : decode cX1_agrees 18 = .ok (.getfield 11, 3) := by decide +kernel
theorem dX1_agrees_21 : decode cX1_agrees 21 = .ok (.iload_n 3, 1) := by decide +kernel
theorem dX1_agrees_22 : decode cX1_agrees 22 = .ok (.iaload, 1) := by decide +kernel
theorem dX1_agrees_23 : decode cX1_agrees 23 = .ok (.iconst 1, 1) := by decide +kernel
theorem dX1_agrees_24 : decode cX1_agrees 24 = .ok (.invokevirtual 31, 3) := by decide +kernel
theorem dX1_agrees_27 : decode cX1_agrees 27 = .ok (.istore 4, 2) := by decide +kernel
theorem dX1_agrees_29 : decode cX1_agrees 29 = .ok (.aload_n 2, 1) := by decide +kernel
theorem dX1_agrees_30 : decode cX1_agrees 30 = .ok (.aload_n 0, 1) := by decide +kernel
theorem dX1_agrees_31 : decode cX1_agrees 31 = .ok (.getfield 11, 3) := by decide +kernel
theorem dX1_agrees_34 : decode cX1_agrees 34 = .ok (.iload_n 3, 1) := by decide +kernel
theorem dX1_agrees_35 : decode cX1_agrees 35 = .ok (.iaload, 1) := by decide +kernel
theorem dX1_agrees_36 : decode cX1_agrees 36 = .ok (.invokevirtual 35, 3) := by decide +kernel
theorem dX1_agrees_39 : decode cX1_agrees 39 = .ok (.ifCond .eq 26, 3) := by decide +kernel
theorem dX1_agrees_42 : decode cX1_agrees 42 = .ok (.iload_n 1, 1) := by decide +kernel
theorem dX1_agrees_43 : decode cX1_agrees 43 = .ok (.iload 4, 2) := by decide +kernel
theorem dX1_agrees_45 : decode cX1_agrees 45 = .ok (.aload_n 0, 1) := by decide +kernel
theorem dX1_agrees_46 : decode cX1_agrees 46 = .ok (.getfield 15, 3) := by decide +kernel
theorem dX1_agrees_49 : decode cX1_agrees 49 = .ok (.iload_n 3, 1) := by decide +kernel
theorem dX1_agrees_50 : decode cX1_agrees 50 = .ok (.iaload, 1) := by decide +kernel
theorem dX1_agrees_51 : decode cX1_agrees 51 = .ok (.invokestatic 39, 3) := by decide +kernel
theorem dX1_agrees_54 : decode cX1_agrees 54 = .ok (.aload_n 0, 1) := by decide +kernel
theorem dX1_agrees_55 : decode cX1_agrees 55 = .ok (.getfield 18, 3) := by decide +kernel
theorem dX1_agrees_58 : decode cX1_agrees 58 = .ok (.iload_n 3, 1) := by decide +kernel
theorem dX1_agrees_59 : decode cX1_agrees 59 = .ok (.iaload, 1) := by decide +kernel
theorem dX1_agrees_60 : decode cX1_agrees 60 = .ok (.if_icmp .eq 5, 3) := by decide +kernel
theorem dX1_agrees_63 : decode cX1_agrees 63 = .ok (.iconst 0, 1) := by decide +kernel
theorem dX1_agrees_64 : decode cX1_agrees 64 = .ok (.ireturn, 1) := by decide +kernel
theorem dX1_agrees_65 : decode cX1_agrees 65 = .ok (.iinc 3 1, 3) := by decide +kernel
theorem dX1_agrees_68 : decode cX1_agrees 68 = .ok (.goto (-66), 3) := by decide +kernel
theorem dX1_agrees_71 : decode cX1_agrees 71 = .ok (.iconst 1, 1) := by decide +kernel
theorem dX1_agrees_72 : decode cX1_agrees 72 = .ok (.ireturn, 1) := by decide +kernel
theorem dX2_init_0 : decode cX2_init 0 = .ok (.aload_n 0, 1) := by decide +kernel
theorem dX2_init_1 : decode cX2_init 1 = .ok (.invokespecial 1, 3) := by decide +kernel
theorem dX2_init_4 : decode cX2_init 4 = .ok (.aload_n 0, 1) := by decide +kernel
theorem dX2_init_5 : decode cX2_init 5 = .ok (.sipush 504, 3) := by decide +kernel
theorem dX2_init_8 : decode cX2_init 8 = .ok (.newarray .int, 2) := by decide +kernel
theorem dX2_init_10 : decode cX2_init 10 = .ok (.putfield 11, 3) := by decide +kernel
theorem dX2_init_13 : decode cX2_init 13 = .ok (.aload_n 0, 1) := by decide +kernel
theorem dX2_init_14 : decode cX2_init 14 = .ok (.bipush 72, 2) := by decide +kernel
theorem dX2_init_16 : decode cX2_init 16 = .ok (.newarray .int, 2) := by decide +kernel
theorem dX2_init_18 : decode cX2_init 18 = .ok (.putfield 15, 3) := by decide +kernel
theorem dX2_init_21 : decode cX2_init 21 = .ok (.aload_n 0, 1) := by decide +kernel
theorem dX2_init_22 : decode cX2_init 22 = .ok (.iconst 2, 1) := by decide +kernel
theorem dX2_init_23 : decode cX2_init 23 = .ok (.newarray .boolean, 2) := by decide +kernel
theorem dX2_init_25 : decode cX2_init 25 = .ok (.putfield 18, 3) := by decide +kernel
theorem dX2_init_28 : decode cX2_init 28 = .ok (.aload_n 0, 1) := by decide +kernel
theorem dX2_init_29 : decode cX2_init 29 = .ok (.iconst 0, 1) := by decide +kernel
theorem dX2_init_30 : decode cX2_init 30 = .ok (.putfield 22, 3) := by decide +kernel
theorem dX2_init_33 : decode cX2_init 33 = .ok (.aload_n 0, 1) := by decide +kernel
theorem dX2_init_34 : decode cX2_init 34 = .ok (.iconst 0, 1) := by decide +kernel
theorem dX2_init_35 : decode cX2_init 35 = .ok (.putfield 26, 3) := by decide +kernel
theorem dX2_init_38 : decode cX2_init 38 = .ok (.return_, 1) := by decide +kernel
theorem dX2_remember_0 : decode cX2_remember 0 = .ok (.aload_n 0, 1) := by decide +kernel
theorem dX2_remember_1 : decode cX2_remember 1 = .ok (.getfield 26, 3) := by decide +kernel
theorem dX2_remember_4 : decode cX2_remember 4 = .ok (.iconst 0, 1) := by decide +kernel
theorem dX2_remember_5 : decode cX2_remember 5 = .ok (.bipush 13, 2) := by decide +kernel
theorem dX2_remember_7 : decode cX2_remember 7 = .ok (.invokestatic 29, 3) := by decide +kernel
theorem dX2_remember_10 : decode cX2_remember 10 = .ok (.ifCond .eq 52, 3) := by decide +kernel
theorem dX2_remember_13 : decode cX2_remember 13 = .ok (.aload_n 1, 1) := by decide +kernel
theorem dX2_remember_14 : decode cX2_remember 14 = .ok (.getfield 35, 3) := by decide +kernel
theorem dX2_remember_17 : decode cX2_remember 17 = .ok (.iconst 0, 1) := by decide +kernel
theorem dX2_remember_18 : decode cX2_remember 18 = .ok (.aload_n 0, 1) := by decide +kernel
theorem dX2_remember_19 : decode cX2_remember 19 = .ok (.getfield 11, 3) := by decide +kernel
theorem dX2_remember_22 : decode cX2_remember 22 = .ok (.aload_n 0, 1) := by decide +kernel
theorem dX2_remember_23 : decode cX2_remember 23 = .ok (.getfield 26, 3) := by decide +kernel
theorem dX2_remember_26 : decode cX2_remember 26 = .ok (.bipush 36, 2) := by decide +kernel
theorem dX2_remember_28 : decode cX2_remember 28 = .ok (.imul, 1) := by decide +kernel
theorem dX2_remember_29 : decode cX2_remember 29 = .ok (.bipush 36, 2) := by decide +kernel
theorem dX2_remember_31 : decode cX2_remember 31 = .ok (.invokestatic 38, 3) := by decide +kernel
theorem dX2_remember_34 : decode cX2_remember 34 = .ok (.aload_n 0, 1) := by decide +kernel
theorem dX2_remember_35 : decode cX2_remember 35 = .ok (.aload_n 0, 1) := by decide +kernel
theorem dX2_remember_36 : decode cX2_remember 36 = .ok (.getfield 26, 3) := by decide +kernel
theorem dX2_remember_39 : decode cX2_remember 39 = .ok (.iconst 1, 1) := by decide +kernel
theorem dX2_remember_40 : decode cX2_remember 40 = .ok (.iadd, 1) := by decide +kernel
theorem dX2_remember_41 : decode cX2_remember 41 = .ok (.bipush 14, 2) := by decide +kernel
theorem dX2_remember_43 : decode cX2_remember 43 = .ok (.irem, 1) := by decide +kernel
theorem dX2_remember_44 : decode cX2_remember 44 = .ok (.putfield 26, 3) := by decide +kernel
theorem dX2_remember_47 : decode cX2_remember 47 = .ok (.aload_n 0, 1) := by decide +kernel
theorem dX2_remember_48 : decode cX2_remember 48 = .ok (.aload_n 0, 1) := by decide +kernel
theorem dX2_remember_49 : decode cX2_remember 49 = .ok (.getfield 22, 3) := by decide +kernel
theorem dX2_remember_52 : decode cX2_remember 52 = .ok (.iconst 1, 1) := by decide +kernel
theorem dX2_remember_53 : decode cX2_remember 53 = .ok (.iadd, 1) := by decide +kernel
theorem dX2_remember_54 : decode cX2_remember 54 = .ok (.bipush 14, 2) := by decide +kernel
theorem dX2_remember_56 : decode cX2_remember 56 = .ok (.invokestatic 44, 3) := by decide +kernel
theorem dX2_remember_59 : decode cX2_remember 59 = .ok (.putfield 22, 3) := by decide +kernel
theorem dX2_remember_62 : decode cX2_remember 62 = .ok (.return_, 1) := by decide +kernel
theorem dX2_takeBack_0 : decode cX2_takeBack 0 = .ok (.aload_n 0, 1) := by decide +kernel
theorem dX2_takeBack_1 : decode cX2_takeBack 1 = .ok (.getfield 26, 3) := by decide +kernel
theorem dX2_takeBack_4 : decode cX2_takeBack 4 = .ok (.bipush 14, 2) := by decide +kernel
theorem dX2_takeBack_6 : decode cX2_takeBack 6 = .ok (.iadd, 1) := by decide +kernel
theorem dX2_takeBack_7 : decode cX2_takeBack 7 = .ok (.iconst 1, 1) := by decide +kernel
theorem dX2_takeBack_8 : decode cX2_takeBack 8 = .ok (.isub, 1) := by decide +kernel
theorem dX2_takeBack_9 : decode cX2_takeBack 9 = .ok (.bipush 14, 2) := by decide +kernel
theorem dX2_takeBack_11 : decode cX2_takeBack 11 = .ok (.irem, 1) := by decide +kernel
theorem dX2_takeBack_12 : decode cX2_takeBack 12 = .ok (.istore_n 2, 1) := by decide +kernel
theorem dX2_takeBack_13 : decode cX2_takeBack 13 = .ok (.aload_n 0, 1) := by decide +kernel
theorem dX2_takeBack_14 : decode cX2_takeBack 14 = .ok (.getfield 22, 3) := by decide +kernel
theorem dX2_takeBack_17 : decode cX2_takeBack 17 = .ok (.ifCond .le 17, 3) := by decide +kernel
theorem dX2_takeBack_20 : decode cX2_takeBack 20 = .ok (.iload_n 2, 1) := by decide +kernel
theorem dX2_takeBack_21 : decode cX2_takeBack 21 = .ok (.iconst 0, 1) := by decide +kernel
theorem dX2_takeBack_22 : decode cX2_takeBack 22 = .ok (.bipush 13, 2) := by decide +kernel
theorem dX2_takeBack_24 : decode cX2_takeBack 24 = .ok (.invokestatic 29, 3) := by decide +kernel
theorem dX2_takeBack_27 : decode cX2_takeBack 27 = .ok (.ifCond .eq 7, 3) := by decide +kernel
theorem dX2_takeBack_30 : decode cX2_takeBack 30 = .ok (.iconst 1, 1) := by decide +kernel
theorem dX2_takeBack_31 : decode cX2_takeBack 31 = .ok (.goto 4, 3) := by decide +kernel
theorem dX2_takeBack_34 : decode cX2_takeBack 34 = .ok (.iconst 0, 1) := by decide +kernel
theorem dX2_takeBack_35 : decode cX2_takeBack 35 = .ok (.istore_n 3, 1) := by decide +kernel
theorem dX2_takeBack_36 : decode cX2_takeBack 36 = .ok (.iload_n 3, 1) := by decide +kernel
theorem dX2_takeBack_37 : decode cX2_takeBack 37 = .ok (.ifCond .eq 36, 3) := by decide +kernel
theorem dX2_takeBack_40 : decode cX2_takeBack 40 = .ok (.aload_n 0, 1) := by decide +kernel
theorem dX2_takeBack_41 : decode cX2_takeBack 41 = .ok (.getfield 11, 3) := by decide +kernel
theorem dX2_takeBack_44 : decode cX2_takeBack 44 = .ok (.iload_n 2, 1) := by decide +kernel
theorem dX2_takeBack_45 : decode cX2_takeBack 45 = .ok (.bipush 36, 2) := by decide +kernel
theorem dX2_takeBack_47 : decode cX2_takeBack 47 = .ok (.imul, 1) := by decide +kernel
theorem dX2_takeBack_48 : decode cX2_takeBack 48 = .ok (.aload_n 1, 1) := by decide +kernel
theorem dX2_takeBack_49 : decode cX2_takeBack 49 = .ok (.getfield 35, 3) := by decide +kernel
theorem dX2_takeBack_52 : decode cX2_takeBack 52 = .ok (.iconst 0, 1) := by decide +kernel
theorem dX2_takeBack_53 : decode cX2_takeBack 53 = .ok (.bipush 36, 2) := by decide +kernel
theorem dX2_takeBack_55 : decode cX2_takeBack 55 = .ok (.invokestatic 38, 3) := by decide +kernel
theorem dX2_takeBack_58 : decode cX2_takeBack 58 = .ok (.aload_n 0, 1) := by decide +kernel
theorem dX2_takeBack_59 : decode cX2_takeBack 59 = .ok (.iload_n 2, 1) := by decide +kernel
theorem dX2_takeBack_60 : decode cX2_takeBack 60 = .ok (.putfield 26, 3) := by decide +kernel
theorem dX2_takeBack_63 : decode cX2_takeBack 63 = .ok (.aload_n 0, 1) := by decide +kernel
theorem dX2_takeBack_64 : decode cX2_takeBack 64 = .ok (.dup, 1) := by decide +kernel
theorem dX2_takeBack_65 : decode cX2_takeBack 65 = .ok (.getfield 22, 3) := by decide +kernel
theorem dX2_takeBack_68 : decode cX2_takeBack 68 = .ok (.iconst 1, 1) := by decide +kernel
theorem dX2_takeBack_69 : decode cX2_takeBack 69 = .ok (.isub, 1) := by decide +kernel
theorem dX2_takeBack_70 : decode cX2_takeBack 70 = .ok (.putfield 22, 3) := by decide +kernel
theorem dX2_takeBack_73 : decode cX2_takeBack 73 = .ok (.iload_n 3, 1) := by decide +kernel
theorem dX2_takeBack_74 : decode cX2_takeBack 74 = .ok (.ireturn, 1) := by decide +kernel
theorem dX2_keepIn_0 : decode cX2_keepIn 0 = .ok (.iload_n 1, 1) := by decide +kernel
theorem dX2_keepIn_1 : decode cX2_keepIn 1 = .ok (.iconst 0, 1) := by decide +kernel
theorem dX2_keepIn_2 : decode cX2_keepIn 2 = .ok (.iconst 1, 1) := by decide +kernel
theorem dX2_keepIn_3 : decode cX2_keepIn 3 = .ok (.invokestatic 29, 3) := by decide +kernel
theorem dX2_keepIn_6 : decode cX2_keepIn 6 = .ok (.istore_n 3, 1) := by decide +kernel
theorem dX2_keepIn_7 : decode cX2_keepIn 7 = .ok (.iload_n 3, 1) := by decide +kernel
theorem dX2_keepIn_8 : decode cX2_keepIn 8 = .ok (.ifCond .eq 28, 3) := by decide +kernel
theorem dX2_keepIn_11 : decode cX2_keepIn 11 = .ok (.aload_n 2, 1) := by decide +kernel
theorem dX2_keepIn_12 : decode cX2_keepIn 12 = .ok (.getfield 35, 3) := by decide +kernel
theorem dX2_keepIn_15 : decode cX2_keepIn 15 = .ok (.iconst 0, 1) := by decide +kernel
theorem dX2_keepIn_16 : decode cX2_keepIn 16 = .ok (.aload_n 0, 1) := by decide +kernel
theorem dX2_keepIn_17 : decode cX2_keepIn 17 = .ok (.getfield 15, 3) := by decide +kernel
theorem dX2_keepIn_20 : decode cX2_keepIn 20 = .ok (.iload_n 1, 1) := by decide +kernel
theorem dX2_keepIn_21 : decode cX2_keepIn 21 = .ok (.bipush 36, 2) := by decide +kernel
theorem dX2_keepIn_23 : decode cX2_keepIn 23 = .ok (.imul, 1) := by decide +kernel
theorem dX2_keepIn_24 : decode cX2_keepIn 24 = .ok (.bipush 36, 2) := by decide +kernel
theorem dX2_keepIn_26 : decode cX2_keepIn 26 = .ok (.invokestatic 38, 3) := by decide +kernel
theorem dX2_keepIn_29 : decode cX2_keepIn 29 = .ok (.aload_n 0, 1) := by decide +kernel
theorem dX2_keepIn_30 : decode cX2_keepIn 30 = .ok (.getfield 18, 3) := by decide +kernel
theorem dX2_keepIn_33 : decode cX2_keepIn 33 = .ok (.iload_n 1, 1) := by decide +kernel
theorem dX2_keepIn_34 : decode cX2_keepIn 34 = .ok (.iconst 1, 1) := by decide +kernel
theorem dX2_keepIn_35 : decode cX2_keepIn 35 = .ok (.bastore, 1) := by decide +kernel
theorem dX2_keepIn_36 : decode cX2_keepIn 36 = .ok (.iload_n 3, 1) := by decide +kernel
theorem dX2_keepIn_37 : decode cX2_keepIn 37 = .ok (.ireturn, 1) := by decide +kernel
theorem dX2_bringBack_0 : decode cX2_bringBack 0 = .ok (.iload_n 1, 1) := by decide +kernel
theorem dX2_bringBack_1 : decode cX2_bringBack 1 = .ok (.iconst 0, 1) := by decide +kernel
theorem dX2_bringBack_2 : decode cX2_bringBack 2 = .ok (.iconst 1, 1) := by decide +kernel
theorem dX2_bringBack_3 : decode cX2_bringBack 3 = .ok (.invokestatic 29, 3) := by decide +kernel
theorem dX2_bringBack_6 : decode cX2_bringBack 6 = .ok (.ifCond .eq 16, 3) := by decide +kernel
theorem dX2_bringBack_9 : decode cX2_bringBack 9 = .ok (.aload_n 0, 1) := by decide +kernel
theorem dX2_bringBack_10 : decode cX2_bringBack 10 = .ok (.getfield 18, 3) := by decide +kernel
theorem dX2_bringBack_13 : decode cX2_bringBack 13 = .ok (.iload_n 1, 1) := by decide +kernel
theorem dX2_bringBack_14 : decode cX2_bringBack 14 = .ok (.baload, 1) := by decide +kernel
theorem dX2_bringBack_15 : decode cX2_bringBack 15 = .ok (.ifCond .eq 7, 3) := by decide +kernel
theorem dX2_bringBack_18 : decode cX2_bringBack 18 = .ok (.iconst 1, 1) := by decide +kernel
theorem dX2_bringBack_19 : decode cX2_bringBack 19 = .ok (.goto 4, 3) := by decide +kernel
theorem dX2_bringBack_22 : decode cX2_bringBack 22 = .ok (.iconst 0, 1) := by decide +kernel
theorem dX2_bringBack_23 : decode cX2_bringBack 23 = .ok (.istore_n 3, 1) := by decide +kernel
theorem dX2_bringBack_24 : decode cX2_bringBack 24 = .ok (.iload_n 3, 1) := by decide +kernel
theorem dX2_bringBack_25 : decode cX2_bringBack 25 = .ok (.ifCond .eq 26, 3) := by decide +kernel
theorem dX2_bringBack_28 : decode cX2_bringBack 28 = .ok (.aload_n 0, 1) := by decide +kernel
theorem dX2_bringBack_29 : decode cX2_bringBack 29 = .ok (.getfield 15, 3) := by decide +kernel
theorem dX2_bringBack_32 : decode cX2_bringBack 32 = .ok (.iload_n 1, 1) := by decide +kernel
theorem dX2_bringBack_33 : decode cX2_bringBack 33 = .ok (.bipush 36, 2) := by decide +kernel
theorem dX2_bringBack_35 : decode cX2_bringBack 35 = .ok (.imul, 1) := by decide +kernel
theorem dX2_bringBack_36 : decode cX2_bringBack 36 = .ok (.aload_n 2, 1) := by decide +kernel
theorem dX2_bringBack_37 : decode cX2_bringBack 37 = .ok (.getfield 35, 3) := by decide +kernel
theorem dX2_bringBack_40 : decode cX2_bringBack 40 = .ok (.iconst 0, 1) := by decide +kernel
theorem dX2_bringBack_41 : decode cX2_bringBack 41 = .ok (.bipush 36, 2) := by decide +kernel
theorem dX2_bringBack_43 : decode cX2_bringBack 43 = .ok (.invokestatic 38, 3) := by decide +kernel
theorem dX2_bringBack_46 : decode cX2_bringBack 46 = .ok (.aload_n 0, 1) := by decide +kernel
theorem dX2_bringBack_47 : decode cX2_bringBack 47 = .ok (.iconst 0, 1) := by decide +kernel
theorem dX2_bringBack_48 : decode cX2_bringBack 48 = .ok (.putfield 22, 3) := by decide +kernel
theorem dX2_bringBack_51 : decode cX2_bringBack 51 = .ok (.iload_n 3, 1) := by decide +kernel
theorem dX2_bringBack_52 : decode cX2_bringBack 52 = .ok (.ireturn, 1) := by decide +kernel
theorem dX2_forgetAll_0 : decode cX2_forgetAll 0 = .ok (.aload_n 0, 1) := by decide +kernel
theorem dX2_forgetAll_1 : decode cX2_forgetAll 1 = .ok (.iconst 0, 1) := by decide +kernel
theorem dX2_forgetAll_2 : decode cX2_forgetAll 2 = .ok (.putfield 22, 3) := by decide +kernel
theorem dX2_forgetAll_5 : decode cX2_forgetAll 5 = .ok (.iconst 0, 1) := by decide +kernel
theorem dX2_forgetAll_6 : decode cX2_forgetAll 6 = .ok (.istore_n 1, 1) := by decide +kernel
theorem dX2_forgetAll_7 : decode cX2_forgetAll 7 = .ok (.iload_n 1, 1) := by decide +kernel
theorem dX2_forgetAll_8 : decode cX2_forgetAll 8 = .ok (.iconst 2, 1) := by decide +kernel
theorem dX2_forgetAll_9 : decode cX2_forgetAll 9 = .ok (.if_icmp .ge 16, 3) := by decide +kernel
theorem dX2_forgetAll_12 : decode cX2_forgetAll 12 = .ok (.aload_n 0, 1) := by decide +kernel
theorem dX2_forgetAll_13 : decode cX2_forgetAll 13 = .ok (.getfield 18, 3) := by decide +kernel
theorem dX2_forgetAll_16 : decode cX2_forgetAll 16 = .ok (.iload_n 1, 1) := by decide +kernel
theorem dX2_forgetAll_17 : decode cX2_forgetAll 17 = .ok (.iconst 0, 1) := by decide +kernel
theorem dX2_forgetAll_18 : decode cX2_forgetAll 18 = .ok (.bastore, 1) := by decide +kernel
theorem dX2_forgetAll_19 : decode cX2_forgetAll 19 = .ok (.iinc 1 1, 3) := by decide +kernel
theorem dX2_forgetAll_22 : decode cX2_forgetAll 22 = .ok (.goto (-15), 3) := by decide +kernel
theorem dX2_forgetAll_25 : decode cX2_forgetAll 25 = .ok (.return_, 1) := by decide +kernel
theorem dX3_init_0 : decode cX3_init 0 = .ok (.aload_n 0, 1) := by decide +kernel
theorem dX3_init_1 : decode cX3_init 1 = .ok (.invokespecial 3, 3) := by decide +kernel
theorem dX3_init_4 : decode cX3_init 4 = .ok (.aload_n 0, 1) := by decide +kernel
theorem dX3_init_5 : decode cX3_init 5 = .ok (.bipush 80, 2) := by decide +kernel
theorem dX3_init_7 : decode cX3_init 7 = .ok (.newarray .int, 2) := by decide +kernel
theorem dX3_init_9 : decode cX3_init 9 = .ok (.putfield 11, 3) := by decide +kernel
theorem dX3_init_12 : decode cX3_init 12 = .ok (.aload_n 0, 1) := by decide +kernel
theorem dX3_init_13 : decode cX3_init 13 = .ok (.iconst 0, 1) := by decide +kernel
theorem dX3_init_14 : decode cX3_init 14 = .ok (.putfield 15, 3) := by decide +kernel
theorem dX3_init_17 : decode cX3_init 17 = .ok (.aload_n 0, 1) := by decide +kernel
theorem dX3_init_18 : decode cX3_init 18 = .ok (.iconst 0, 1) := by decide +kernel
theorem dX3_init_19 : decode cX3_init 19 = .ok (.putfield 19, 3) := by decide +kernel
theorem dX3_init_22 : decode cX3_init 22 = .ok (.return_, 1) := by decide +kernel
theorem dX3_append_0 : decode cX3_append 0 = .ok (.aload_n 0, 1) := by decide +kernel
theorem dX3_append_1 : decode cX3_append 1 = .ok (.getfield 15, 3) := by decide +kernel
theorem dX3_append_4 : decode cX3_append 4 = .ok (.ifCond .lt 16, 3) := by decide +kernel
theorem dX3_append_7 : decode cX3_append 7 = .ok (.aload_n 0, 1) := by decide +kernel
theorem dX3_append_8 : decode cX3_append 8 = .ok (.getfield 15, 3) := by decide +kernel
theorem dX3_append_11 : decode cX3_append 11 = .ok (.bipush 80, 2) := by decide +kernel
theorem dX3_append_13 : decode cX3_append 13 = .ok (.if_icmp .ge 7, 3) := by decide +kernel
theorem dX3_append_16 : decode cX3_append 16 = .ok (.iconst 1, 1) := by decide +kernel
theorem dX3_append_17 : decode cX3_append 17 = .ok (.goto 4, 3) := by decide +kernel
theorem dX3_append_20 : decode cX3_append 20 = .ok (.iconst 0, 1) := by decide +kernel
theorem dX3_append_21 : decode cX3_append 21 = .ok (.istore_n 2, 1) := by decide +kernel
theorem dX3_append_22 : decode cX3_append 22 = .ok (.iload_n 2, 1) := by decide +kernel
theorem dX3_append_23 : decode cX3_append 23 = .ok (.ifCond .eq 23, 3) := by decide +kernel
theorem dX3_append_26 : decode cX3_append 26 = .ok (.aload_n 0, 1) := by decide +kernel
theorem dX3_append_27 : decode cX3_append 27 = .ok (.getfield 11, 3) := by decide +kernel
theorem dX3_append_30 : decode cX3_append 30 = .ok (.aload_n 0, 1) := by decide +kernel
theorem dX3_append_31 : decode cX3_append 31 = .ok (.getfield 15, 3) := by decide +kernel
theorem dX3_append_34 : decode cX3_append 34 = .ok (.iload_n 1, 1) := by decide +kernel
theorem dX3_append_35 : decode cX3_append 35 = .ok (.iastore, 1) := by decide +kernel
theorem dX3_append_36 : decode cX3_append 36 = .ok (.aload_n 0, 1) := by decide +kernel
theorem dX3_append_37 : decode cX3_append 37 = .ok (.dup, 1) := by decide +kernel
theorem dX3_append_38 : decode cX3_append 38 = .ok (.getfield 15, 3) := by decide +kernel
theorem dX3_append_41 : decode cX3_append 41 = .ok (.iconst 1, 1) := by decide +kernel
theorem dX3_append_42 : decode cX3_append 42 = .ok (.iadd, 1) := by decide +kernel
theorem dX3_append_43 : decode cX3_append 43 = .ok (.putfield 15, 3) := by decide +kernel
theorem dX3_append_46 : decode cX3_append 46 = .ok (.iload_n 2, 1) := by decide +kernel
theorem dX3_append_47 : decode cX3_append 47 = .ok (.ireturn, 1) := by decide +kernel
theorem dX3_readInto_0 : decode cX3_readInto 0 = .ok (.aload_n 1, 1) := by decide +kernel
theorem dX3_readInto_1 : decode cX3_readInto 1 = .ok (.invokevirtual 22, 3) := by decide +kernel
theorem dX3_readInto_4 : decode cX3_readInto 4 = .ok (.aload_n 0, 1) := by decide +kernel
theorem dX3_readInto_5 : decode cX3_readInto 5 = .ok (.iconst 0, 1) := by decide +kernel
theorem dX3_readInto_6 : decode cX3_readInto 6 = .ok (.putfield 19, 3) := by decide +kernel
theorem dX3_readInto_9 : decode cX3_readInto 9 = .ok (.aload_n 0, 1) := by decide +kernel
theorem dX3_readInto_10 : decode cX3_readInto 10 = .ok (.bipush 83, 2) := by decide +kernel
theorem dX3_readInto_12 : decode cX3_readInto 12 = .ok (.invokevirtual 27, 3) := by decide +kernel
theorem dX3_readInto_15 : decode cX3_readInto 15 = .ok (.ifCond .ne 8, 3) := by decide +kernel
theorem dX3_readInto_18 : decode cX3_readInto 18 = .ok (.aload_n 0, 1) := by decide +kernel
theorem dX3_readInto_19 : decode cX3_readInto 19 = .ok (.getfield 19, 3) := by decide +kernel
theorem dX3_readInto_22 : decode cX3_readInto 22 = .ok (.ireturn, 1) := by decide +kernel
theorem dX3_readInto_23 : decode cX3_readInto 23 = .ok (.aload_n 0, 1) := by decide +kernel
theorem dX3_readInto_24 : decode cX3_readInto 24 = .ok (.dup, 1) := by decide +kernel
theorem dX3_readInto_25 : decode cX3_readInto 25 = .ok (.getfield 19, 3) := by decide +kernel
theorem dX3_readInto_28 : decode cX3_readInto 28 = .ok (.iconst 1, 1) := by decide +kernel
theorem dX3_readInto_29 : decode cX3_readInto 29 = .ok (.iadd, 1) := by decide +kernel
theorem dX3_readInto_30 : decode cX3_readInto 30 = .ok (.putfield 19, 3) := by decide +kernel
theorem dX3_readInto_33 : decode cX3_readInto 33 = .ok (.aload_n 0, 1) := by decide +kernel
theorem dX3_readInto_34 : decode cX3_readInto 34 = .ok (.iconst 1, 1) := by decide +kernel
theorem dX3_readInto_35 : decode cX3_readInto 35 = .ok (.bipush 6, 2) := by decide +kernel
theorem dX3_readInto_37 : decode cX3_readInto 37 = .ok (.invokevirtual 31, 3) := by decide +kernel
theorem dX3_readInto_40 : decode cX3_readInto 40 = .ok (.istore_n 2, 1) := by decide +kernel
theorem dX3_readInto_41 : decode cX3_readInto 41 = .ok (.iload_n 2, 1) := by decide +kernel
theorem dX3_readInto_42 : decode cX3_readInto 42 = .ok (.bipush (-9), 2) := by decide +kernel
theorem dX3_readInto_44 : decode cX3_readInto 44 = .ok (.if_icmp .ne 8, 3) := by decide +kernel
theorem dX3_readInto_47 : decode cX3_readInto 47 = .ok (.aload_n 0, 1) := by decide +kernel
theorem dX3_readInto_48 : decode cX3_readInto 48 = .ok (.getfield 19, 3) := by decide +kernel
theorem dX3_readInto_51 : decode cX3_readInto 51 = .ok (.ireturn, 1) := by decide +kernel
theorem dX3_readInto_52 : decode cX3_readInto 52 = .ok (.aload_n 1, 1) := by decide +kernel
theorem dX3_readInto_53 : decode cX3_readInto 53 = .ok (.iload_n 2, 1) := by decide +kernel
theorem dX3_readInto_54 : decode cX3_readInto 54 = .ok (.invokevirtual 35, 3) := by decide +kernel
theorem dX3_readInto_57 : decode cX3_readInto 57 = .ok (.iconst 1, 1) := by decide +kernel
theorem dX3_readInto_58 : decode cX3_readInto 58 = .ok (.istore_n 3, 1) := by decide +kernel
theorem dX3_readInto_59 : decode cX3_readInto 59 = .ok (.iconst 0, 1) := by decide +kernel
theorem dX3_readInto_60 : decode cX3_readInto 60 = .ok (.istore 4, 2) := by decide +kernel
theorem dX3_readInto_62 : decode cX3_readInto 62 = .ok (.iload 4, 2) := by decide +kernel
theorem dX3_readInto_64 : decode cX3_readInto 64 = .ok (.bipush 80, 2) := by decide +kernel
theorem dX3_readInto_66 : decode cX3_readInto 66 = .ok (.if_icmp .ge 75, 3) := by decide +kernel
theorem dX3_readInto_69 : decode cX3_readInto 69 = .ok (.aload_n 0, 1) := by decide +kernel
theorem dX3_readInto_70 : decode cX3_readInto 70 = .ok (.getfield 19, 3) := by decide +kernel
theorem dX3_readInto_73 : decode cX3_readInto 73 = .ok (.aload_n 0, 1) := by decide +kernel
theorem dX3_readInto_74 : decode cX3_readInto 74 = .ok (.getfield 15, 3) := by decide +kernel
theorem dX3_readInto_77 : decode cX3_readInto 77 = .ok (.if_icmp .ge 64, 3) := by decide +kernel
theorem dX3_readInto_80 : decode cX3_readInto 80 = .ok (.iload_n 3, 1) := by decide +kernel
theorem dX3_readInto_81 : decode cX3_readInto 81 = .ok (.ifCond .eq 24, 3) := by decide +kernel
theorem dX3_readInto_84 : decode cX3_readInto 84 = .ok (.aload_n 1, 1) := by decide +kernel
theorem dX3_readInto_85 : decode cX3_readInto 85 = .ok (.invokevirtual 39, 3) := by decide +kernel
theorem dX3_readInto_88 : decode cX3_readInto 88 = .ok (.iconst 4, 1) := by decide +kernel
theorem dX3_readInto_89 : decode cX3_readInto 89 = .ok (.if_icmp .ge 16, 3) := by decide +kernel
theorem dX3_readInto_92 : decode cX3_readInto 92 = .ok (.aload_n 0, 1) := by decide +kernel
theorem dX3_readInto_93 : decode cX3_readInto 93 = .ok (.bipush 117, 2) := by decide +kernel
theorem dX3_readInto_95 : decode cX3_readInto 95 = .ok (.invokevirtual 27, 3) := by decide +kernel
theorem dX3_readInto_98 : decode cX3_readInto 98 = .ok (.ifCond .eq 7, 3) := by decide +kernel
theorem dX3_readInto_101 : decode cX3_readInto 101 = .ok (.iconst 1, 1) := by decide +kernel
theorem dX3_readInto_102 : decode cX3_readInto 102 = .ok (.goto 4, 3) := by decide +kernel
theorem dX3_readInto_105 : decode cX3_readInto 105 = .ok (.iconst 0, 1) := by decide +kernel
theorem dX3_readInto_106 : decode cX3_readInto 106 = .ok (.istore_n 3, 1) := by decide +kernel
theorem dX3_readInto_107 : decode cX3_readInto 107 = .ok (.iload_n 3, 1) := by decide +kernel
theorem dX3_readInto_108 : decode cX3_readInto 108 = .ok (.ifCond .eq 14, 3) := by decide +kernel
theorem dX3_readInto_111 : decode cX3_readInto 111 = .ok (.aload_n 0, 1) := by decide +kernel
theorem dX3_readInto_112 : decode cX3_readInto 112 = .ok (.aload_n 1, 1) := by decide +kernel
theorem dX3_readInto_113 : decode cX3_readInto 113 = .ok (.invokevirtual 43, 3) := by decide +kernel
theorem dX3_readInto_116 : decode cX3_readInto 116 = .ok (.ifCond .ne 19, 3) := by decide +kernel
theorem dX3_readInto_119 : decode cX3_readInto 119 = .ok (.goto 11, 3) := by decide +kernel
theorem dX3_readInto_122 : decode cX3_readInto 122 = .ok (.aload_n 0, 1) := by decide +kernel
theorem dX3_readInto_123 : decode cX3_readInto 123 = .ok (.aload_n 1, 1) := by decide +kernel
theorem dX3_readInto_124 : decode cX3_readInto 124 = .ok (.invokevirtual 47, 3) := by decide +kernel
theorem dX3_readInto_127 : decode cX3_readInto 127 = .ok (.ifCond .ne 8, 3) := by decide +kernel
theorem dX3_readInto_130 : decode cX3_readInto 130 = .ok (.aload_n 0, 1) := by decide +kernel
theorem dX3_readInto_131 : decode cX3_readInto 131 = .ok (.getfield 19, 3) := by decide +kernel
theorem dX3_readInto_134 : decode cX3_readInto 134 = .ok (.ireturn, 1) := by decide +kernel
theorem dX3_readInto_135 : decode cX3_readInto 135 = .ok (.iinc 4 1, 3) := by decide +kernel
theorem dX3_readInto_138 : decode cX3_readInto 138 = .ok (.goto (-76), 3) := by decide +kernel
theorem dX3_readInto_141 : decode cX3_readInto 141 = .ok (.bipush (-9), 2) := by decide +kernel
theorem dX3_readInto_143 : decode cX3_readInto 143 = .ok (.ireturn, 1) := by decide +kernel
theorem dX3_nextLetter_0 : decode cX3_nextLetter 0 = .ok (.aload_n 0, 1) := by decide +kernel
theorem dX3_nextLetter_1 : decode cX3_nextLetter 1 = .ok (.getfield 19, 3) := by decide +kernel
theorem dX3_nextLetter_4 : decode cX3_nextLetter 4 = .ok (.ifCond .lt 35, 3) := by decide +kernel
theorem dX3_nextLetter_7 : decode cX3_nextLetter 7 = .ok (.aload_n 0, 1) := by decide +kernel
theorem dX3_nextLetter_8 : decode cX3_nextLetter 8 = .ok (.getfield 19, 3) := by decide +kernel
theorem dX3_nextLetter_11 : decode cX3_nextLetter 11 = .ok (.aload_n 0, 1) := by decide +kernel
theorem dX3_nextLetter_12 : decode cX3_nextLetter 12 = .ok (.getfield 15, 3) := by decide +kernel
theorem dX3_nextLetter_15 : decode cX3_nextLetter 15 = .ok (.if_icmp .ge 24, 3) := by decide +kernel
theorem dX3_nextLetter_18 : decode cX3_nextLetter 18 = .ok (.aload_n 0, 1) := by decide +kernel
theorem dX3_nextLetter_19 : decode cX3_nextLetter 19 = .ok (.getfield 19, 3) := by decide +kernel
theorem dX3_nextLetter_22 : decode cX3_nextLetter 22 = .ok (.bipush 80, 2) := by decide +kernel
theorem dX3_nextLetter_24 : decode cX3_nextLetter 24 = .ok (.if_icmp .ge 15, 3) := by decide +kernel
theorem dX3_nextLetter_27 : decode cX3_nextLetter 27 = .ok (.aload_n 0, 1) := by decide +kernel
theorem dX3_nextLetter_28 : decode cX3_nextLetter 28 = .ok (.getfield 11, 3) := by decide +kernel
theorem dX3_nextLetter_31 : decode cX3_nextLetter 31 = .ok (.aload_n 0, 1) := by decide +kernel
theorem dX3_nextLetter_32 : decode cX3_nextLetter 32 = .ok (.getfield 19, 3) := by decide +kernel
theorem dX3_nextLetter_35 : decode cX3_nextLetter 35 = .ok (.iaload, 1) := by decide +kernel
theorem dX3_nextLetter_36 : decode cX3_nextLetter 36 = .ok (.goto 5, 3) := by decide +kernel
theorem dX3_nextLetter_39 : decode cX3_nextLetter 39 = .ok (.bipush (-9), 2) := by decide +kernel
theorem dX3_nextLetter_41 : decode cX3_nextLetter 41 = .ok (.ireturn, 1) := by decide +kernel
theorem dX3_isNext_0 : decode cX3_isNext 0 = .ok (.aload_n 0, 1) := by decide +kernel
theorem dX3_isNext_1 : decode cX3_isNext 1 = .ok (.invokevirtual 50, 3) := by decide +kernel
theorem dX3_isNext_4 : decode cX3_isNext 4 = .ok (.iload_n 1, 1) := by decide +kernel
theorem dX3_isNext_5 : decode cX3_isNext 5 = .ok (.if_icmp .ne 7, 3) := by decide +kernel
theorem dX3_isNext_8 : decode cX3_isNext 8 = .ok (.iconst 1, 1) := by decide +kernel
theorem dX3_isNext_9 : decode cX3_isNext 9 = .ok (.goto 4, 3) := by decide +kernel
theorem dX3_isNext_12 : decode cX3_isNext 12 = .ok (.iconst 0, 1) := by decide +kernel
theorem dX3_isNext_13 : decode cX3_isNext 13 = .ok (.ireturn, 1) := by decide +kernel
theorem dX3_readUser_0 : decode cX3_readUser 0 = .ok (.aload_n 0, 1) := by decide +kernel
theorem dX3_readUser_1 : decode cX3_readUser 1 = .ok (.dup, 1) := by decide +kernel
theorem dX3_readUser_2 : decode cX3_readUser 2 = .ok (.getfield 19, 3) := by decide +kernel
theorem dX3_readUser_5 : decode cX3_readUser 5 = .ok (.iconst 1, 1) := by decide +kernel
theorem dX3_readUser_6 : decode cX3_readUser 6 = .ok (.iadd, 1) := by decide +kernel
theorem dX3_readUser_7 : decode cX3_readUser 7 = .ok (.putfield 19, 3) := by decide +kernel
theorem dX3_readUser_10 : decode cX3_readUser 10 = .ok (.aload_n 0, 1) := by decide +kernel
theorem dX3_readUser_11 : decode cX3_readUser 11 = .ok (.invokevirtual 53, 3) := by decide +kernel
theorem dX3_readUser_14 : decode cX3_readUser 14 = .ok (.istore_n 2, 1) := by decide +kernel
theorem dX3_readUser_15 : decode cX3_readUser 15 = .ok (.iload_n 2, 1) := by decide +kernel
theorem dX3_readUser_16 : decode cX3_readUser 16 = .ok (.bipush (-9), 2) := by decide +kernel
theorem dX3_readUser_18 : decode cX3_readUser 18 = .ok (.if_icmp .ne 8, 3) := by decide +kernel
theorem dX3_readUser_21 : decode cX3_readUser 21 = .ok (.bipush (-9), 2) := by decide +kernel
theorem dX3_readUser_23 : decode cX3_readUser 23 = .ok (.goto 7, 3) := by decide +kernel
theorem dX3_readUser_26 : decode cX3_readUser 26 = .ok (.aload_n 0, 1) := by decide +kernel
theorem dX3_readUser_27 : decode cX3_readUser 27 = .ok (.invokevirtual 53, 3) := by decide +kernel
theorem dX3_readUser_30 : decode cX3_readUser 30 = .ok (.istore_n 3, 1) := by decide +kernel
theorem dX3_readUser_31 : decode cX3_readUser 31 = .ok (.iload_n 3, 1) := by decide +kernel
theorem dX3_readUser_32 : decode cX3_readUser 32 = .ok (.bipush (-9), 2) := by decide +kernel
theorem dX3_readUser_34 : decode cX3_readUser 34 = .ok (.if_icmp .ne 8, 3) := by decide +kernel
theorem dX3_readUser_37 : decode cX3_readUser 37 = .ok (.bipush (-9), 2) := by decide +kernel
theorem dX3_readUser_39 : decode cX3_readUser 39 = .ok (.goto 7, 3) := by decide +kernel
theorem dX3_readUser_42 : decode cX3_readUser 42 = .ok (.aload_n 0, 1) := by decide +kernel
theorem dX3_readUser_43 : decode cX3_readUser 43 = .ok (.invokevirtual 56, 3) := by decide +kernel
theorem dX3_readUser_46 : decode cX3_readUser 46 = .ok (.istore 4, 2) := by decide +kernel
theorem dX3_readUser_48 : decode cX3_readUser 48 = .ok (.iload 4, 2) := by decide +kernel
theorem dX3_readUser_50 : decode cX3_readUser 50 = .ok (.bipush (-9), 2) := by decide +kernel
theorem dX3_readUser_52 : decode cX3_readUser 52 = .ok (.if_icmp .ne 5, 3) := by decide +kernel
theorem dX3_readUser_55 : decode cX3_readUser 55 = .ok (.iconst 0, 1) := by decide +kernel
theorem dX3_readUser_56 : decode cX3_readUser 56 = .ok (.ireturn, 1) := by decide +kernel
theorem dX3_readUser_57 : decode cX3_readUser 57 = .ok (.aload_n 1, 1) := by decide +kernel
theorem dX3_readUser_58 : decode cX3_readUser 58 = .ok (.iload_n 2, 1) := by decide +kernel
theorem dX3_readUser_59 : decode cX3_readUser 59 = .ok (.iload_n 3, 1) := by decide +kernel
theorem dX3_readUser_60 : decode cX3_readUser 60 = .ok (.iload 4, 2) := by decide +kernel
theorem dX3_readUser_62 : decode cX3_readUser 62 = .ok (.invokevirtual 59, 3) := by decide +kernel
theorem dX3_readUser_65 : decode cX3_readUser 65 = .ok (.iconst 1, 1) := by decide +kernel
theorem dX3_readUser_66 : decode cX3_readUser 66 = .ok (.ireturn, 1) := by decide +kernel
theorem dX3_readDoing_0 : decode cX3_readDoing 0 = .ok (.aload_n 0, 1) := by decide +kernel
theorem dX3_readDoing_1 : decode cX3_readDoing 1 = .ok (.bipush 115, 2) := by decide +kernel
theorem dX3_readDoing_3 : decode cX3_readDoing 3 = .ok (.invokevirtual 27, 3) := by decide +kernel
theorem dX3_readDoing_6 : decode cX3_readDoing 6 = .ok (.istore_n 2, 1) := by decide +kernel
theorem dX3_readDoing_7 : decode cX3_readDoing 7 = .ok (.iload_n 2, 1) := by decide +kernel
theorem dX3_readDoing_8 : decode cX3_readDoing 8 = .ok (.ifCond .ne 12, 3) := by decide +kernel
theorem dX3_readDoing_11 : decode cX3_readDoing 11 = .ok (.aload_n 0, 1) := by decide +kernel
theorem dX3_readDoing_12 : decode cX3_readDoing 12 = .ok (.bipush 109, 2) := by decide +kernel
theorem dX3_readDoing_14 : decode cX3_readDoing 14 = .ok (.invokevirtual 27, 3) := by decide +kernel
theorem dX3_readDoing_17 : decode cX3_readDoing 17 = .ok (.ifCond .eq 10, 3) := by decide +kernel
theorem dX3_readDoing_20 : decode cX3_readDoing 20 = .ok (.aload_n 1, 1) := by decide +kernel
theorem dX3_readDoing_21 : decode cX3_readDoing 21 = .ok (.invokevirtual 63, 3) := by decide +kernel
theorem dX3_readDoing_24 : decode cX3_readDoing 24 = .ok (.ifCond .ne 5, 3) := by decide +kernel
theorem dX3_readDoing_27 : decode cX3_readDoing 27 = .ok (.iconst 0, 1) := by decide +kernel
theorem dX3_readDoing_28 : decode cX3_readDoing 28 = .ok (.ireturn, 1) := by decide +kernel
theorem dX3_readDoing_29 : decode cX3_readDoing 29 = .ok (.aload_n 0, 1) := by decide +kernel
theorem dX3_readDoing_30 : decode cX3_readDoing 30 = .ok (.dup, 1) := by decide +kernel
theorem dX3_readDoing_31 : decode cX3_readDoing 31 = .ok (.getfield 19, 3) := by decide +kernel
theorem dX3_readDoing_34 : decode cX3_readDoing 34 = .ok (.iconst 1, 1) := by decide +kernel
theorem dX3_readDoing_35 : decode cX3_readDoing 35 = .ok (.iadd, 1) := by decide +kernel
theorem dX3_readDoing_36 : decode cX3_readDoing 36 = .ok (.putfield 19, 3) := by decide +kernel
theorem dX3_readDoing_39 : decode cX3_readDoing 39 = .ok (.aload_n 0, 1) := by decide +kernel
theorem dX3_readDoing_40 : decode cX3_readDoing 40 = .ok (.invokevirtual 50, 3) := by decide +kernel
theorem dX3_readDoing_43 : decode cX3_readDoing 43 = .ok (.bipush 48, 2) := by decide +kernel
theorem dX3_readDoing_45 : decode cX3_readDoing 45 = .ok (.isub, 1) := by decide +kernel
theorem dX3_readDoing_46 : decode cX3_readDoing 46 = .ok (.istore_n 3, 1) := by decide +kernel
theorem dX3_readDoing_47 : decode cX3_readDoing 47 = .ok (.aload_n 1, 1) := by decide +kernel
theorem dX3_readDoing_48 : decode cX3_readDoing 48 = .ok (.iload_n 3, 1) := by decide +kernel
theorem dX3_readDoing_49 : decode cX3_readDoing 49 = .ok (.invokevirtual 67, 3) := by decide +kernel
theorem dX3_readDoing_52 : decode cX3_readDoing 52 = .ok (.ifCond .ne 5, 3) := by decide +kernel
theorem dX3_readDoing_55 : decode cX3_readDoing 55 = .ok (.iconst 0, 1) := by decide +kernel
theorem dX3_readDoing_56 : decode cX3_readDoing 56 = .ok (.ireturn, 1) := by decide +kernel
theorem dX3_readDoing_57 : decode cX3_readDoing 57 = .ok (.aload_n 0, 1) := by decide +kernel
theorem dX3_readDoing_58 : decode cX3_readDoing 58 = .ok (.dup, 1) := by decide +kernel
theorem dX3_readDoing_59 : decode cX3_readDoing 59 = .ok (.getfield 19, 3) := by decide +kernel
theorem dX3_readDoing_62 : decode cX3_readDoing 62 = .ok (.iconst 1, 1) := by decide +kernel
theorem dX3_readDoing_63 : decode cX3_readDoing 63 = .ok (.iadd, 1) := by decide +kernel
theorem dX3_readDoing_64 : decode cX3_readDoing 64 = .ok (.putfield 19, 3) := by decide +kernel
theorem dX3_readDoing_67 : decode cX3_readDoing 67 = .ok (.iload_n 2, 1) := by decide +kernel
theorem dX3_readDoing_68 : decode cX3_readDoing 68 = .ok (.ifCond .eq 12, 3) := by decide +kernel
theorem dX3_readDoing_71 : decode cX3_readDoing 71 = .ok (.aload_n 1, 1) := by decide +kernel
theorem dX3_readDoing_72 : decode cX3_readDoing 72 = .ok (.iload_n 3, 1) := by decide +kernel
theorem dX3_readDoing_73 : decode cX3_readDoing 73 = .ok (.invokevirtual 70, 3) := by decide +kernel
theorem dX3_readDoing_76 : decode cX3_readDoing 76 = .ok (.pop, 1) := by decide +kernel
theorem dX3_readDoing_77 : decode cX3_readDoing 77 = .ok (.goto 9, 3) := by decide +kernel
theorem dX3_readDoing_80 : decode cX3_readDoing 80 = .ok (.aload_n 1, 1) := by decide +kernel
theorem dX3_readDoing_81 : decode cX3_readDoing 81 = .ok (.iload_n 3, 1) := by decide +kernel
theorem dX3_readDoing_82 : decode cX3_readDoing 82 = .ok (.invokevirtual 74, 3) := by decide +kernel
theorem dX3_readDoing_85 : decode cX3_readDoing 85 = .ok (.pop, 1) := by decide +kernel
theorem dX3_readDoing_86 : decode cX3_readDoing 86 = .ok (.iconst 1, 1) := by decide +kernel
theorem dX3_readDoing_87 : decode cX3_readDoing 87 = .ok (.ireturn, 1) := by decide +kernel
theorem dX3_readNumber_0 : decode cX3_readNumber 0 = .ok (.aload_n 0, 1) := by decide +kernel
theorem dX3_readNumber_1 : decode cX3_readNumber 1 = .ok (.iconst 0, 1) := by decide +kernel
theorem dX3_readNumber_2 : decode cX3_readNumber 2 = .ok (.iconst 2, 1) := by decide +kernel
theorem dX3_readNumber_3 : decode cX3_readNumber 3 = .ok (.invokevirtual 31, 3) := by decide +kernel
theorem dX3_readNumber_6 : decode cX3_readNumber 6 = .ok (.istore_n 1, 1) := by decide +kernel
theorem dX3_readNumber_7 : decode cX3_readNumber 7 = .ok (.iload_n 1, 1) := by decide +kernel
theorem dX3_readNumber_8 : decode cX3_readNumber 8 = .ok (.bipush (-9), 2) := by decide +kernel
theorem dX3_readNumber_10 : decode cX3_readNumber 10 = .ok (.if_icmp .ne 6, 3) := by decide +kernel
theorem dX3_readNumber_13 : decode cX3_readNumber 13 = .ok (.bipush (-9), 2) := by decide +kernel
theorem dX3_readNumber_15 : decode cX3_readNumber 15 = .ok (.ireturn, 1) := by decide +kernel
theorem dX3_readNumber_16 : decode cX3_readNumber 16 = .ok (.aload_n 0, 1) := by decide +kernel
theorem dX3_readNumber_17 : decode cX3_readNumber 17 = .ok (.iconst 0, 1) := by decide +kernel
theorem dX3_readNumber_18 : decode cX3_readNumber 18 = .ok (.iload_n 1, 1) := by decide +kernel
theorem dX3_readNumber_19 : decode cX3_readNumber 19 = .ok (.iconst 2, 1) := by decide +kernel
theorem dX3_readNumber_20 : decode cX3_readNumber 20 = .ok (.if_icmp .ne 7, 3) := by decide +kernel
theorem dX3_readNumber_23 : decode cX3_readNumber 23 = .ok (.iconst 5, 1) := by decide +kernel
theorem dX3_readNumber_24 : decode cX3_readNumber 24 = .ok (.goto 5, 3) := by decide +kernel
theorem dX3_readNumber_27 : decode cX3_readNumber 27 = .ok (.bipush 9, 2) := by decide +kernel
theorem dX3_readNumber_29 : decode cX3_readNumber 29 = .ok (.invokevirtual 31, 3) := by decide +kernel
theorem dX3_readNumber_32 : decode cX3_readNumber 32 = .ok (.istore_n 2, 1) := by decide +kernel
theorem dX3_readNumber_33 : decode cX3_readNumber 33 = .ok (.iload_n 2, 1) := by decide +kernel
theorem dX3_readNumber_34 : decode cX3_readNumber 34 = .ok (.bipush (-9), 2) := by decide +kernel
theorem dX3_readNumber_36 : decode cX3_readNumber 36 = .ok (.if_icmp .ne 6, 3) := by decide +kernel
theorem dX3_readNumber_39 : decode cX3_readNumber 39 = .ok (.bipush (-9), 2) := by decide +kernel
theorem dX3_readNumber_41 : decode cX3_readNumber 41 = .ok (.ireturn, 1) := by decide +kernel
theorem dX3_readNumber_42 : decode cX3_readNumber 42 = .ok (.aload_n 0, 1) := by decide +kernel
theorem dX3_readNumber_43 : decode cX3_readNumber 43 = .ok (.iconst 0, 1) := by decide +kernel
theorem dX3_readNumber_44 : decode cX3_readNumber 44 = .ok (.iload_n 1, 1) := by decide +kernel
theorem dX3_readNumber_45 : decode cX3_readNumber 45 = .ok (.iconst 2, 1) := by decide +kernel
theorem dX3_readNumber_46 : decode cX3_readNumber 46 = .ok (.if_icmp .ne 12, 3) := by decide +kernel
theorem dX3_readNumber_49 : decode cX3_readNumber 49 = .ok (.iload_n 2, 1) := by decide +kernel
theorem dX3_readNumber_50 : decode cX3_readNumber 50 = .ok (.iconst 5, 1) := by decide +kernel
theorem dX3_readNumber_51 : decode cX3_readNumber 51 = .ok (.if_icmp .ne 7, 3) := by decide +kernel
theorem dX3_readNumber_54 : decode cX3_readNumber 54 = .ok (.iconst 0, 1) := by decide +kernel
theorem dX3_readNumber_55 : decode cX3_readNumber 55 = .ok (.goto 5, 3) := by decide +kernel
theorem dX3_readNumber_58 : decode cX3_readNumber 58 = .ok (.bipush 9, 2) := by decide +kernel
theorem dX3_readNumber_60 : decode cX3_readNumber 60 = .ok (.invokevirtual 31, 3) := by decide +kernel
theorem dX3_readNumber_63 : decode cX3_readNumber 63 = .ok (.istore_n 3, 1) := by decide +kernel
theorem dX3_readNumber_64 : decode cX3_readNumber 64 = .ok (.iload_n 3, 1) := by decide +kernel
theorem dX3_readNumber_65 : decode cX3_readNumber 65 = .ok (.bipush (-9), 2) := by decide +kernel
theorem dX3_readNumber_67 : decode cX3_readNumber 67 = .ok (.if_icmp .ne 8, 3) := by decide +kernel
theorem dX3_readNumber_70 : decode cX3_readNumber 70 = .ok (.bipush (-9), 2) := by decide +kernel
theorem dX3_readNumber_72 : decode cX3_readNumber 72 = .ok (.goto 14, 3) := by decide +kernel
theorem dX3_readNumber_75 : decode cX3_readNumber 75 = .ok (.bipush 100, 2) := by decide +kernel
theorem dX3_readNumber_77 : decode cX3_readNumber 77 = .ok (.iload_n 1, 1) := by decide +kernel
theorem dX3_readNumber_78 : decode cX3_readNumber 78 = .ok (.imul, 1) := by decide +kernel
theorem dX3_readNumber_79 : decode cX3_readNumber 79 = .ok (.bipush 10, 2) := by decide +kernel
theorem dX3_readNumber_81 : decode cX3_readNumber 81 = .ok (.iload_n 2, 1) := by decide +kernel
theorem dX3_readNumber_82 : decode cX3_readNumber 82 = .ok (.imul, 1) := by decide +kernel
theorem dX3_readNumber_83 : decode cX3_readNumber 83 = .ok (.iadd, 1) := by decide +kernel
theorem dX3_readNumber_84 : decode cX3_readNumber 84 = .ok (.iload_n 3, 1) := by decide +kernel
theorem dX3_readNumber_85 : decode cX3_readNumber 85 = .ok (.iadd, 1) := by decide +kernel
theorem dX3_readNumber_86 : decode cX3_readNumber 86 = .ok (.ireturn, 1) := by decide +kernel
theorem dX3_readRowLength_0 : decode cX3_readRowLength 0 = .ok (.aload_n 0, 1) := by decide +kernel
theorem dX3_readRowLength_1 : decode cX3_readRowLength 1 = .ok (.iconst 0, 1) := by decide +kernel
theorem dX3_readRowLength_2 : decode cX3_readRowLength 2 = .ok (.iconst 3, 1) := by decide +kernel
theorem dX3_readRowLength_3 : decode cX3_readRowLength 3 = .ok (.invokevirtual 31, 3) := by decide +kernel
theorem dX3_readRowLength_6 : decode cX3_readRowLength 6 = .ok (.istore_n 1, 1) := by decide +kernel
theorem dX3_readRowLength_7 : decode cX3_readRowLength 7 = .ok (.iload_n 1, 1) := by decide +kernel
theorem dX3_readRowLength_8 : decode cX3_readRowLength 8 = .ok (.bipush (-9), 2) := by decide +kernel
theorem dX3_readRowLength_10 : decode cX3_readRowLength 10 = .ok (.if_icmp .ne 6, 3) := by decide +kernel
theorem dX3_readRowLength_13 : decode cX3_readRowLength 13 = .ok (.bipush (-9), 2) := by decide +kernel
theorem dX3_readRowLength_15 : decode cX3_readRowLength 15 = .ok (.ireturn, 1) := by decide +kernel
theorem dX3_readRowLength_16 : decode cX3_readRowLength 16 = .ok (.aload_n 0, 1) := by decide +kernel
theorem dX3_readRowLength_17 : decode cX3_readRowLength 17 = .ok (.iload_n 1, 1) := by decide +kernel
theorem dX3_readRowLength_18 : decode cX3_readRowLength 18 = .ok (.ifCond .ne 7, 3) := by decide +kernel
theorem dX3_readRowLength_21 : decode cX3_readRowLength 21 = .ok (.iconst 1, 1) := by decide +kernel
theorem dX3_readRowLength_22 : decode cX3_readRowLength 22 = .ok (.goto 4, 3) := by decide +kernel
theorem dX3_readRowLength_25 : decode cX3_readRowLength 25 = .ok (.iconst 0, 1) := by decide +kernel
theorem dX3_readRowLength_26 : decode cX3_readRowLength 26 = .ok (.iload_n 1, 1) := by decide +kernel
theorem dX3_readRowLength_27 : decode cX3_readRowLength 27 = .ok (.iconst 3, 1) := by decide +kernel
theorem dX3_readRowLength_28 : decode cX3_readRowLength 28 = .ok (.if_icmp .ne 7, 3) := by decide +kernel
theorem dX3_readRowLength_31 : decode cX3_readRowLength 31 = .ok (.iconst 0, 1) := by decide +kernel
theorem dX3_readRowLength_32 : decode cX3_readRowLength 32 = .ok (.goto 5, 3) := by decide +kernel
theorem dX3_readRowLength_35 : decode cX3_readRowLength 35 = .ok (.bipush 9, 2) := by decide +kernel
theorem dX3_readRowLength_37 : decode cX3_readRowLength 37 = .ok (.invokevirtual 31, 3) := by decide +kernel
theorem dX3_readRowLength_40 : decode cX3_readRowLength 40 = .ok (.istore_n 2, 1) := by decide +kernel
theorem dX3_readRowLength_41 : decode cX3_readRowLength 41 = .ok (.iload_n 2, 1) := by decide +kernel
theorem dX3_readRowLength_42 : decode cX3_readRowLength 42 = .ok (.bipush (-9), 2) := by decide +kernel
theorem dX3_readRowLength_44 : decode cX3_readRowLength 44 = .ok (.if_icmp .ne 8, 3) := by decide +kernel
theorem dX3_readRowLength_47 : decode cX3_readRowLength 47 = .ok (.bipush (-9), 2) := by decide +kernel
theorem dX3_readRowLength_49 : decode cX3_readRowLength 49 = .ok (.goto 9, 3) := by decide +kernel
theorem dX3_readRowLength_52 : decode cX3_readRowLength 52 = .ok (.bipush 10, 2) := by decide +kernel
theorem dX3_readRowLength_54 : decode cX3_readRowLength 54 = .ok (.iload_n 1, 1) := by decide +kernel
theorem dX3_readRowLength_55 : decode cX3_readRowLength 55 = .ok (.imul, 1) := by decide +kernel
theorem dX3_readRowLength_56 : decode cX3_readRowLength 56 = .ok (.iload_n 2, 1) := by decide +kernel
theorem dX3_readRowLength_57 : decode cX3_readRowLength 57 = .ok (.iadd, 1) := by decide +kernel
theorem dX3_readRowLength_58 : decode cX3_readRowLength 58 = .ok (.ireturn, 1) := by decide +kernel
theorem dX3_readFigure_0 : decode cX3_readFigure 0 = .ok (.aload_n 0, 1) := by decide +kernel
theorem dX3_readFigure_1 : decode cX3_readFigure 1 = .ok (.invokevirtual 50, 3) := by decide +kernel
theorem dX3_readFigure_4 : decode cX3_readFigure 4 = .ok (.bipush 48, 2) := by decide +kernel
theorem dX3_readFigure_6 : decode cX3_readFigure 6 = .ok (.isub, 1) := by decide +kernel
theorem dX3_readFigure_7 : decode cX3_readFigure 7 = .ok (.istore_n 3, 1) := by decide +kernel
theorem dX3_readFigure_8 : decode cX3_readFigure 8 = .ok (.iload_n 3, 1) := by decide +kernel
theorem dX3_readFigure_9 : decode cX3_readFigure 9 = .ok (.iload_n 1, 1) := by decide +kernel
theorem dX3_readFigure_10 : decode cX3_readFigure 10 = .ok (.iload_n 2, 1) := by decide +kernel
theorem dX3_readFigure_11 : decode cX3_readFigure 11 = .ok (.invokestatic 77, 3) := by decide +kernel
theorem dX3_readFigure_14 : decode cX3_readFigure 14 = .ok (.ifCond .ne 6, 3) := by decide +kernel
theorem dX3_readFigure_17 : decode cX3_readFigure 17 = .ok (.bipush (-9), 2) := by decide +kernel
theorem dX3_readFigure_19 : decode cX3_readFigure 19 = .ok (.ireturn, 1) := by decide +kernel
theorem dX3_readFigure_20 : decode cX3_readFigure 20 = .ok (.aload_n 0, 1) := by decide +kernel
theorem dX3_readFigure_21 : decode cX3_readFigure 21 = .ok (.dup, 1) := by decide +kernel
theorem dX3_readFigure_22 : decode cX3_readFigure 22 = .ok (.getfield 19, 3) := by decide +kernel
theorem dX3_readFigure_25 : decode cX3_readFigure 25 = .ok (.iconst 1, 1) := by decide +kernel
theorem dX3_readFigure_26 : decode cX3_readFigure 26 = .ok (.iadd, 1) := by decide +kernel
theorem dX3_readFigure_27 : decode cX3_readFigure 27 = .ok (.putfield 19, 3) := by decide +kernel
theorem dX3_readFigure_30 : decode cX3_readFigure 30 = .ok (.iload_n 3, 1) := by decide +kernel
theorem dX3_readFigure_31 : decode cX3_readFigure 31 = .ok (.ireturn, 1) := by decide +kernel
theorem dJ7_fill_53178_0 : decode cJ7_fill_53178 0 = .ok (.iconst 0, 1) := by decide +kernel
theorem dJ7_fill_53178_1 : decode cJ7_fill_53178 1 = .ok (.istore_n 2, 1) := by decide +kernel
theorem dJ7_fill_53178_2 : decode cJ7_fill_53178 2 = .ok (.aload_n 0, 1) := by decide +kernel
theorem dJ7_fill_53178_3 : decode cJ7_fill_53178 3 = .ok (.arraylength, 1) := by decide +kernel
theorem dJ7_fill_53178_4 : decode cJ7_fill_53178 4 = .ok (.istore_n 3, 1) := by decide +kernel
theorem dJ7_fill_53178_5 : decode cJ7_fill_53178 5 = .ok (.iload_n 2, 1) := by decide +kernel
theorem dJ7_fill_53178_6 : decode cJ7_fill_53178 6 = .ok (.iload_n 3, 1) := by decide +kernel
theorem dJ7_fill_53178_7 : decode cJ7_fill_53178 7 = .ok (.if_icmp .ge 13, 3) := by decide +kernel
theorem dJ7_fill_53178_10 : decode cJ7_fill_53178 10 = .ok (.aload_n 0, 1) := by decide +kernel
theorem dJ7_fill_53178_11 : decode cJ7_fill_53178 11 = .ok (.iload_n 2, 1) := by decide +kernel
theorem dJ7_fill_53178_12 : decode cJ7_fill_53178 12 = .ok (.iload_n 1, 1) := by decide +kernel
theorem dJ7_fill_53178_13 : decode cJ7_fill_53178 13 = .ok (.iastore, 1) := by decide +kernel
theorem dJ7_fill_53178_14 : decode cJ7_fill_53178 14 = .ok (.iinc 2 1, 3) := by decide +kernel
theorem dJ7_fill_53178_17 : decode cJ7_fill_53178 17 = .ok (.goto (-12), 3) := by decide +kernel
theorem dJ7_fill_53178_20 : decode cJ7_fill_53178 20 = .ok (.return_, 1) := by decide +kernel
