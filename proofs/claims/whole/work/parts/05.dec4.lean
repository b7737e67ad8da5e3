theorem dX4_init_0 : decode cX4_init 0 = .ok (.aload_n 0, 1) := by decide +kernel
theorem dX4_init_1 : decode cX4_init 1 = .ok (.invokespecial 1, 3) := by decide +kernel
theorem dX4_init_4 : decode cX4_init 4 = .ok (.aload_n 0, 1) := by decide +kernel
theorem dX4_init_5 : decode cX4_init 5 = .ok (.new 7, 3) := by decide +kernel
theorem dX4_init_8 : decode cX4_init 8 = .ok (.dup, 1) := by decide +kernel
theorem dX4_init_9 : decode cX4_init 9 = .ok (.invokespecial 9, 3) := by decide +kernel
theorem dX4_init_12 : decode cX4_init 12 = .ok (.putfield 10, 3) := by decide +kernel
theorem dX4_init_15 : decode cX4_init 15 = .ok (.aload_n 0, 1) := by decide +kernel
theorem dX4_init_16 : decode cX4_init 16 = .ok (.new 16, 3) := by decide +kernel
theorem dX4_init_19 : decode cX4_init 19 = .ok (.dup, 1) := by decide +kernel
theorem dX4_init_20 : decode cX4_init 20 = .ok (.invokespecial 18, 3) := by decide +kernel
theorem dX4_init_23 : decode cX4_init 23 = .ok (.putfield 19, 3) := by decide +kernel
theorem dX4_init_26 : decode cX4_init 26 = .ok (.aload_n 0, 1) := by decide +kernel
theorem dX4_init_27 : decode cX4_init 27 = .ok (.new 16, 3) := by decide +kernel
theorem dX4_init_30 : decode cX4_init 30 = .ok (.dup, 1) := by decide +kernel
theorem dX4_init_31 : decode cX4_init 31 = .ok (.invokespecial 18, 3) := by decide +kernel
theorem dX4_init_34 : decode cX4_init 34 = .ok (.putfield 23, 3) := by decide +kernel
theorem dX4_init_37 : decode cX4_init 37 = .ok (.aload_n 0, 1) := by decide +kernel
theorem dX4_init_38 : decode cX4_init 38 = .ok (.new 26, 3) := by decide +kernel
theorem dX4_init_41 : decode cX4_init 41 = .ok (.dup, 1) := by decide +kernel
theorem dX4_init_42 : decode cX4_init 42 = .ok (.invokespecial 28, 3) := by decide +kernel
theorem dX4_init_45 : decode cX4_init 45 = .ok (.putfield 29, 3) := by decide +kernel
theorem dX4_init_48 : decode cX4_init 48 = .ok (.aload_n 0, 1) := by decide +kernel
theorem dX4_init_49 : decode cX4_init 49 = .ok (.new 33, 3) := by decide +kernel
theorem dX4_init_52 : decode cX4_init 52 = .ok (.dup, 1) := by decide +kernel
theorem dX4_init_53 : decode cX4_init 53 = .ok (.invokespecial 35, 3) := by decide +kernel
theorem dX4_init_56 : decode cX4_init 56 = .ok (.putfield 36, 3) := by decide +kernel
theorem dX4_init_59 : decode cX4_init 59 = .ok (.aload_n 0, 1) := by decide +kernel
theorem dX4_init_60 : decode cX4_init 60 = .ok (.lconst 0, 1) := by decide +kernel
theorem dX4_init_61 : decode cX4_init 61 = .ok (.putfield 40, 3) := by decide +kernel
theorem dX4_init_64 : decode cX4_init 64 = .ok (.return_, 1) := by decide +kernel
theorem dX4_write_0 : decode cX4_write 0 = .ok (.iload_n 1, 1) := by decide +kernel
theorem dX4_write_1 : decode cX4_write 1 = .ok (.ifCond .lt 10, 3) := by decide +kernel
theorem dX4_write_4 : decode cX4_write 4 = .ok (.iload_n 1, 1) := by decide +kernel
theorem dX4_write_5 : decode cX4_write 5 = .ok (.sipush 255, 3) := by decide +kernel
theorem dX4_write_8 : decode cX4_write 8 = .ok (.if_icmp .le 6, 3) := by decide +kernel
theorem dX4_write_11 : decode cX4_write 11 = .ok (.bipush (-2), 2) := by decide +kernel
theorem dX4_write_13 : decode cX4_write 13 = .ok (.ireturn, 1) := by decide +kernel
theorem dX4_write_14 : decode cX4_write 14 = .ok (.aload_n 0, 1) := by decide +kernel
theorem dX4_write_15 : decode cX4_write 15 = .ok (.getfield 10, 3) := by decide +kernel
theorem dX4_write_18 : decode cX4_write 18 = .ok (.iload_n 1, 1) := by decide +kernel
theorem dX4_write_19 : decode cX4_write 19 = .ok (.invokevirtual 44, 3) := by decide +kernel
theorem dX4_write_22 : decode cX4_write 22 = .ok (.ifCond .eq 13, 3) := by decide +kernel
theorem dX4_write_25 : decode cX4_write 25 = .ok (.aload_n 0, 1) := by decide +kernel
theorem dX4_write_26 : decode cX4_write 26 = .ok (.getfield 10, 3) := by decide +kernel
theorem dX4_write_29 : decode cX4_write 29 = .ok (.getfield 48, 3) := by decide +kernel
theorem dX4_write_32 : decode cX4_write 32 = .ok (.goto 5, 3) := by decide +kernel
theorem dX4_write_35 : decode cX4_write 35 = .ok (.bipush (-4), 2) := by decide +kernel
theorem dX4_write_37 : decode cX4_write 37 = .ok (.ireturn, 1) := by decide +kernel
theorem dX4_wipe_0 : decode cX4_wipe 0 = .ok (.aload_n 0, 1) := by decide +kernel
theorem dX4_wipe_1 : decode cX4_wipe 1 = .ok (.getfield 10, 3) := by decide +kernel
theorem dX4_wipe_4 : decode cX4_wipe 4 = .ok (.getfield 48, 3) := by decide +kernel
theorem dX4_wipe_7 : decode cX4_wipe 7 = .ok (.istore_n 1, 1) := by decide +kernel
theorem dX4_wipe_8 : decode cX4_wipe 8 = .ok (.aload_n 0, 1) := by decide +kernel
theorem dX4_wipe_9 : decode cX4_wipe 9 = .ok (.getfield 10, 3) := by decide +kernel
theorem dX4_wipe_12 : decode cX4_wipe 12 = .ok (.iconst 0, 1) := by decide +kernel
theorem dX4_wipe_13 : decode cX4_wipe 13 = .ok (.putfield 48, 3) := by decide +kernel
theorem dX4_wipe_16 : decode cX4_wipe 16 = .ok (.iload_n 1, 1) := by decide +kernel
theorem dX4_wipe_17 : decode cX4_wipe 17 = .ok (.ireturn, 1) := by decide +kernel
theorem dX4_fault_0 : decode cX4_fault 0 = .ok (.aload_n 0, 1) := by decide +kernel
theorem dX4_fault_1 : decode cX4_fault 1 = .ok (.getfield 10, 3) := by decide +kernel
theorem dX4_fault_4 : decode cX4_fault 4 = .ok (.aload_n 0, 1) := by decide +kernel
theorem dX4_fault_5 : decode cX4_fault 5 = .ok (.getfield 23, 3) := by decide +kernel
theorem dX4_fault_8 : decode cX4_fault 8 = .ok (.invokevirtual 52, 3) := by decide +kernel
theorem dX4_fault_11 : decode cX4_fault 11 = .ok (.ireturn, 1) := by decide +kernel
theorem dX4_desk_0 : decode cX4_desk 0 = .ok (.aload_n 0, 1) := by decide +kernel
theorem dX4_desk_1 : decode cX4_desk 1 = .ok (.getfield 10, 3) := by decide +kernel
theorem dX4_desk_4 : decode cX4_desk 4 = .ok (.aload_n 0, 1) := by decide +kernel
theorem dX4_desk_5 : decode cX4_desk 5 = .ok (.getfield 23, 3) := by decide +kernel
theorem dX4_desk_8 : decode cX4_desk 8 = .ok (.invokevirtual 52, 3) := by decide +kernel
theorem dX4_desk_11 : decode cX4_desk 11 = .ok (.bipush (-9), 2) := by decide +kernel
theorem dX4_desk_13 : decode cX4_desk 13 = .ok (.if_icmp .eq 6, 3) := by decide +kernel
theorem dX4_desk_16 : decode cX4_desk 16 = .ok (.bipush (-3), 2) := by decide +kernel
theorem dX4_desk_18 : decode cX4_desk 18 = .ok (.ireturn, 1) := by decide +kernel
theorem dX4_desk_19 : decode cX4_desk 19 = .ok (.aload_n 0, 1) := by decide +kernel
theorem dX4_desk_20 : decode cX4_desk 20 = .ok (.getfield 19, 3) := by decide +kernel
theorem dX4_desk_23 : decode cX4_desk 23 = .ok (.aload_n 0, 1) := by decide +kernel
theorem dX4_desk_24 : decode cX4_desk 24 = .ok (.getfield 23, 3) := by decide +kernel
theorem dX4_desk_27 : decode cX4_desk 27 = .ok (.invokevirtual 56, 3) := by decide +kernel
theorem dX4_desk_30 : decode cX4_desk 30 = .ok (.aload_n 0, 1) := by decide +kernel
theorem dX4_desk_31 : decode cX4_desk 31 = .ok (.getfield 29, 3) := by decide +kernel
theorem dX4_desk_34 : decode cX4_desk 34 = .ok (.invokevirtual 60, 3) := by decide +kernel
theorem dX4_desk_37 : decode cX4_desk 37 = .ok (.aload_n 0, 1) := by decide +kernel
theorem dX4_desk_38 : decode cX4_desk 38 = .ok (.getfield 19, 3) := by decide +kernel
theorem dX4_desk_41 : decode cX4_desk 41 = .ok (.invokevirtual 63, 3) := by decide +kernel
theorem dX4_desk_44 : decode cX4_desk 44 = .ok (.ireturn, 1) := by decide +kernel
theorem dX4_user_0 : decode cX4_user 0 = .ok (.aload_n 0, 1) := by decide +kernel
theorem dX4_user_1 : decode cX4_user 1 = .ok (.getfield 19, 3) := by decide +kernel
theorem dX4_user_4 : decode cX4_user 4 = .ok (.iload_n 1, 1) := by decide +kernel
theorem dX4_user_5 : decode cX4_user 5 = .ok (.invokevirtual 67, 3) := by decide +kernel
theorem dX4_user_8 : decode cX4_user 8 = .ok (.ifCond .ne 5, 3) := by decide +kernel
theorem dX4_user_11 : decode cX4_user 11 = .ok (.iconst (-1), 1) := by decide +kernel
theorem dX4_user_12 : decode cX4_user 12 = .ok (.ireturn, 1) := by decide +kernel
theorem dX4_user_13 : decode cX4_user 13 = .ok (.iload_n 2, 1) := by decide +kernel
theorem dX4_user_14 : decode cX4_user 14 = .ok (.tableswitch 205 0 10 #[58, 68, 78, 88, 98, 108, 118, 135, 152, 161, 183], 58) := by decide +kernel
theorem dX4_user_72 : decode cX4_user 72 = .ok (.aload_n 0, 1) := by decide +kernel
theorem dX4_user_73 : decode cX4_user 73 = .ok (.getfield 19, 3) := by decide +kernel
theorem dX4_user_76 : decode cX4_user 76 = .ok (.iload_n 1, 1) := by decide +kernel
theorem dX4_user_77 : decode cX4_user 77 = .ok (.iconst 0, 1) := by decide +kernel
theorem dX4_user_78 : decode cX4_user 78 = .ok (.invokevirtual 70, 3) := by decide +kernel
theorem dX4_user_81 : decode cX4_user 81 = .ok (.ireturn, 1) := by decide +kernel
theorem dX4_user_82 : decode cX4_user 82 = .ok (.aload_n 0, 1) := by decide +kernel
theorem dX4_user_83 : decode cX4_user 83 = .ok (.getfield 19, 3) := by decide +kernel
theorem dX4_user_86 : decode cX4_user 86 = .ok (.iload_n 1, 1) := by decide +kernel
theorem dX4_user_87 : decode cX4_user 87 = .ok (.iconst 1, 1) := by decide +kernel
theorem dX4_user_88 : decode cX4_user 88 = .ok (.invokevirtual 70, 3) := by decide +kernel
theorem dX4_user_91 : decode cX4_user 91 = .ok (.ireturn, 1) := by decide +kernel
theorem dX4_user_92 : decode cX4_user 92 = .ok (.aload_n 0, 1) := by decide +kernel
theorem dX4_user_93 : decode cX4_user 93 = .ok (.getfield 19, 3) := by decide +kernel
theorem dX4_user_96 : decode cX4_user 96 = .ok (.iload_n 1, 1) := by decide +kernel
theorem dX4_user_97 : decode cX4_user 97 = .ok (.iconst 2, 1) := by decide +kernel
theorem dX4_user_98 : decode cX4_user 98 = .ok (.invokevirtual 70, 3) := by decide +kernel
theorem dX4_user_101 : decode cX4_user 101 = .ok (.ireturn, 1) := by decide +kernel
theorem dX4_user_102 : decode cX4_user 102 = .ok (.aload_n 0, 1) := by decide +kernel
theorem dX4_user_103 : decode cX4_user 103 = .ok (.getfield 19, 3) := by decide +kernel
theorem dX4_user_106 : decode cX4_user 106 = .ok (.iload_n 1, 1) := by decide +kernel
theorem dX4_user_107 : decode cX4_user 107 = .ok (.iconst 3, 1) := by decide +kernel
theorem dX4_user_108 : decode cX4_user 108 = .ok (.invokevirtual 70, 3) := by decide +kernel
theorem dX4_user_111 : decode cX4_user 111 = .ok (.ireturn, 1) := by decide +kernel
theorem dX4_user_112 : decode cX4_user 112 = .ok (.aload_n 0, 1) := by decide +kernel
theorem dX4_user_113 : decode cX4_user 113 = .ok (.getfield 19, 3) := by decide +kernel
theorem dX4_user_116 : decode cX4_user 116 = .ok (.iload_n 1, 1) := by decide +kernel
theorem dX4_user_117 : decode cX4_user 117 = .ok (.iconst 4, 1) := by decide +kernel
theorem dX4_user_118 : decode cX4_user 118 = .ok (.invokevirtual 70, 3) := by decide +kernel
theorem dX4_user_121 : decode cX4_user 121 = .ok (.ireturn, 1) := by decide +kernel
theorem dX4_user_122 : decode cX4_user 122 = .ok (.aload_n 0, 1) := by decide +kernel
theorem dX4_user_123 : decode cX4_user 123 = .ok (.getfield 19, 3) := by decide +kernel
theorem dX4_user_126 : decode cX4_user 126 = .ok (.iload_n 1, 1) := by decide +kernel
theorem dX4_user_127 : decode cX4_user 127 = .ok (.iconst 5, 1) := by decide +kernel
theorem dX4_user_128 : decode cX4_user 128 = .ok (.invokevirtual 70, 3) := by decide +kernel
theorem dX4_user_131 : decode cX4_user 131 = .ok (.ireturn, 1) := by decide +kernel
theorem dX4_user_132 : decode cX4_user 132 = .ok (.aload_n 0, 1) := by decide +kernel
theorem dX4_user_133 : decode cX4_user 133 = .ok (.getfield 19, 3) := by decide +kernel
theorem dX4_user_136 : decode cX4_user 136 = .ok (.iload_n 1, 1) := by decide +kernel
theorem dX4_user_137 : decode cX4_user 137 = .ok (.invokevirtual 74, 3) := by decide +kernel
theorem dX4_user_140 : decode cX4_user 140 = .ok (.ifCond .eq 7, 3) := by decide +kernel
theorem dX4_user_143 : decode cX4_user 143 = .ok (.iconst 1, 1) := by decide +kernel
theorem dX4_user_144 : decode cX4_user 144 = .ok (.goto 4, 3) := by decide +kernel
theorem dX4_user_147 : decode cX4_user 147 = .ok (.iconst 0, 1) := by decide +kernel
theorem dX4_user_148 : decode cX4_user 148 = .ok (.ireturn, 1) := by decide +kernel
theorem dX4_user_149 : decode cX4_user 149 = .ok (.aload_n 0, 1) := by decide +kernel
theorem dX4_user_150 : decode cX4_user 150 = .ok (.getfield 19, 3) := by decide +kernel
theorem dX4_user_153 : decode cX4_user 153 = .ok (.iload_n 1, 1) := by decide +kernel
theorem dX4_user_154 : decode cX4_user 154 = .ok (.invokevirtual 77, 3) := by decide +kernel
theorem dX4_user_157 : decode cX4_user 157 = .ok (.ifCond .eq 7, 3) := by decide +kernel
theorem dX4_user_160 : decode cX4_user 160 = .ok (.iconst 1, 1) := by decide +kernel
theorem dX4_user_161 : decode cX4_user 161 = .ok (.goto 4, 3) := by decide +kernel
theorem dX4_user_164 : decode cX4_user 164 = .ok (.iconst 0, 1) := by decide +kernel
theorem dX4_user_165 : decode cX4_user 165 = .ok (.ireturn, 1) := by decide +kernel
theorem dX4_user_166 : decode cX4_user 166 = .ok (.aload_n 0, 1) := by decide +kernel
theorem dX4_user_167 : decode cX4_user 167 = .ok (.getfield 19, 3) := by decide +kernel
theorem dX4_user_170 : decode cX4_user 170 = .ok (.iload_n 1, 1) := by decide +kernel
theorem dX4_user_171 : decode cX4_user 171 = .ok (.invokevirtual 80, 3) := by decide +kernel
theorem dX4_user_174 : decode cX4_user 174 = .ok (.ireturn, 1) := by decide +kernel
theorem dX4_user_175 : decode cX4_user 175 = .ok (.aload_n 0, 1) := by decide +kernel
theorem dX4_user_176 : decode cX4_user 176 = .ok (.getfield 19, 3) := by decide +kernel
theorem dX4_user_179 : decode cX4_user 179 = .ok (.iload_n 1, 1) := by decide +kernel
theorem dX4_user_180 : decode cX4_user 180 = .ok (.iconst 0, 1) := by decide +kernel
theorem dX4_user_181 : decode cX4_user 181 = .ok (.invokevirtual 70, 3) := by decide +kernel
theorem dX4_user_184 : decode cX4_user 184 = .ok (.aload_n 0, 1) := by decide +kernel
theorem dX4_user_185 : decode cX4_user 185 = .ok (.getfield 19, 3) := by decide +kernel
theorem dX4_user_188 : decode cX4_user 188 = .ok (.iload_n 1, 1) := by decide +kernel
theorem dX4_user_189 : decode cX4_user 189 = .ok (.iconst 1, 1) := by decide +kernel
theorem dX4_user_190 : decode cX4_user 190 = .ok (.invokevirtual 70, 3) := by decide +kernel
theorem dX4_user_193 : decode cX4_user 193 = .ok (.invokestatic 84, 3) := by decide +kernel
theorem dX4_user_196 : decode cX4_user 196 = .ok (.ireturn, 1) := by decide +kernel
theorem dX4_user_197 : decode cX4_user 197 = .ok (.aload_n 0, 1) := by decide +kernel
theorem dX4_user_198 : decode cX4_user 198 = .ok (.getfield 19, 3) := by decide +kernel
theorem dX4_user_201 : decode cX4_user 201 = .ok (.iload_n 1, 1) := by decide +kernel
theorem dX4_user_202 : decode cX4_user 202 = .ok (.iconst 0, 1) := by decide +kernel
theorem dX4_user_203 : decode cX4_user 203 = .ok (.invokevirtual 70, 3) := by decide +kernel
theorem dX4_user_206 : decode cX4_user 206 = .ok (.aload_n 0, 1) := by decide +kernel
theorem dX4_user_207 : decode cX4_user 207 = .ok (.getfield 19, 3) := by decide +kernel
theorem dX4_user_210 : decode cX4_user 210 = .ok (.iload_n 1, 1) := by decide +kernel
theorem dX4_user_211 : decode cX4_user 211 = .ok (.iconst 1, 1) := by decide +kernel
theorem dX4_user_212 : decode cX4_user 212 = .ok (.invokevirtual 70, 3) := by decide +kernel
theorem dX4_user_215 : decode cX4_user 215 = .ok (.invokestatic 87, 3) := by decide +kernel
theorem dX4_user_218 : decode cX4_user 218 = .ok (.ireturn, 1) := by decide +kernel
theorem dX4_user_219 : decode cX4_user 219 = .ok (.bipush (-2), 2) := by decide +kernel
theorem dX4_user_221 : decode cX4_user 221 = .ok (.ireturn, 1) := by decide +kernel
theorem dX4_pass_0 : decode cX4_pass 0 = .ok (.aload_n 0, 1) := by decide +kernel
theorem dX4_pass_1 : decode cX4_pass 1 = .ok (.getfield 19, 3) := by decide +kernel
theorem dX4_pass_4 : decode cX4_pass 4 = .ok (.iload_n 1, 1) := by decide +kernel
theorem dX4_pass_5 : decode cX4_pass 5 = .ok (.invokevirtual 67, 3) := by decide +kernel
theorem dX4_pass_8 : decode cX4_pass 8 = .ok (.ifCond .ne 5, 3) := by decide +kernel
theorem dX4_pass_11 : decode cX4_pass 11 = .ok (.iconst (-1), 1) := by decide +kernel
theorem dX4_pass_12 : decode cX4_pass 12 = .ok (.ireturn, 1) := by decide +kernel
theorem dX4_pass_13 : decode cX4_pass 13 = .ok (.iload_n 2, 1) := by decide +kernel
theorem dX4_pass_14 : decode cX4_pass 14 = .ok (.ifCond .lt 28, 3) := by decide +kernel
theorem dX4_pass_17 : decode cX4_pass 17 = .ok (.iload_n 2, 1) := by decide +kernel
theorem dX4_pass_18 : decode cX4_pass 18 = .ok (.aload_n 0, 1) := by decide +kernel
theorem dX4_pass_19 : decode cX4_pass 19 = .ok (.getfield 19, 3) := by decide +kernel
theorem dX4_pass_22 : decode cX4_pass 22 = .ok (.iload_n 1, 1) := by decide +kernel
theorem dX4_pass_23 : decode cX4_pass 23 = .ok (.iconst 2, 1) := by decide +kernel
theorem dX4_pass_24 : decode cX4_pass 24 = .ok (.invokevirtual 70, 3) := by decide +kernel
theorem dX4_pass_27 : decode cX4_pass 27 = .ok (.if_icmp .ge 15, 3) := by decide +kernel
theorem dX4_pass_30 : decode cX4_pass 30 = .ok (.aload_n 0, 1) := by decide +kernel
theorem dX4_pass_31 : decode cX4_pass 31 = .ok (.getfield 19, 3) := by decide +kernel
theorem dX4_pass_34 : decode cX4_pass 34 = .ok (.iload_n 1, 1) := by decide +kernel
theorem dX4_pass_35 : decode cX4_pass 35 = .ok (.iload_n 2, 1) := by decide +kernel
theorem dX4_pass_36 : decode cX4_pass 36 = .ok (.invokevirtual 90, 3) := by decide +kernel
theorem dX4_pass_39 : decode cX4_pass 39 = .ok (.goto 5, 3) := by decide +kernel
theorem dX4_pass_42 : decode cX4_pass 42 = .ok (.bipush (-9), 2) := by decide +kernel
theorem dX4_pass_44 : decode cX4_pass 44 = .ok (.ireturn, 1) := by decide +kernel
theorem dX4_behind_0 : decode cX4_behind 0 = .ok (.iload_n 1, 1) := by decide +kernel
theorem dX4_behind_1 : decode cX4_behind 1 = .ok (.invokestatic 93, 3) := by decide +kernel
theorem dX4_behind_4 : decode cX4_behind 4 = .ok (.ifCond .eq 20, 3) := by decide +kernel
theorem dX4_behind_7 : decode cX4_behind 7 = .ok (.iload_n 2, 1) := by decide +kernel
theorem dX4_behind_8 : decode cX4_behind 8 = .ok (.invokestatic 93, 3) := by decide +kernel
theorem dX4_behind_11 : decode cX4_behind 11 = .ok (.ifCond .eq 13, 3) := by decide +kernel
theorem dX4_behind_14 : decode cX4_behind 14 = .ok (.iload_n 3, 1) := by decide +kernel
theorem dX4_behind_15 : decode cX4_behind 15 = .ok (.iconst 0, 1) := by decide +kernel
theorem dX4_behind_16 : decode cX4_behind 16 = .ok (.bipush 99, 2) := by decide +kernel
theorem dX4_behind_18 : decode cX4_behind 18 = .ok (.invokestatic 96, 3) := by decide +kernel
theorem dX4_behind_21 : decode cX4_behind 21 = .ok (.ifCond .ne 6, 3) := by decide +kernel
theorem dX4_behind_24 : decode cX4_behind 24 = .ok (.bipush (-2), 2) := by decide +kernel
theorem dX4_behind_26 : decode cX4_behind 26 = .ok (.ireturn, 1) := by decide +kernel
theorem dX4_behind_27 : decode cX4_behind 27 = .ok (.iload_n 1, 1) := by decide +kernel
theorem dX4_behind_28 : decode cX4_behind 28 = .ok (.iload_n 2, 1) := by decide +kernel
theorem dX4_behind_29 : decode cX4_behind 29 = .ok (.iload_n 3, 1) := by decide +kernel
theorem dX4_behind_30 : decode cX4_behind 30 = .ok (.invokestatic 100, 3) := by decide +kernel
theorem dX4_behind_33 : decode cX4_behind 33 = .ok (.ireturn, 1) := by decide +kernel
theorem dX4_send_0 : decode cX4_send 0 = .ok (.aload_n 0, 1) := by decide +kernel
theorem dX4_send_1 : decode cX4_send 1 = .ok (.getfield 19, 3) := by decide +kernel
theorem dX4_send_4 : decode cX4_send 4 = .ok (.iload_n 1, 1) := by decide +kernel
theorem dX4_send_5 : decode cX4_send 5 = .ok (.invokevirtual 67, 3) := by decide +kernel
theorem dX4_send_8 : decode cX4_send 8 = .ok (.ifCond .ne 5, 3) := by decide +kernel
theorem dX4_send_11 : decode cX4_send 11 = .ok (.iconst (-1), 1) := by decide +kernel
theorem dX4_send_12 : decode cX4_send 12 = .ok (.ireturn, 1) := by decide +kernel
theorem dX4_send_13 : decode cX4_send 13 = .ok (.aload_n 0, 1) := by decide +kernel
theorem dX4_send_14 : decode cX4_send 14 = .ok (.getfield 19, 3) := by decide +kernel
theorem dX4_send_17 : decode cX4_send 17 = .ok (.iload_n 1, 1) := by decide +kernel
theorem dX4_send_18 : decode cX4_send 18 = .ok (.invokevirtual 104, 3) := by decide +kernel
theorem dX4_send_21 : decode cX4_send 21 = .ok (.ifCond .ne 6, 3) := by decide +kernel
theorem dX4_send_24 : decode cX4_send 24 = .ok (.bipush (-3), 2) := by decide +kernel
theorem dX4_send_26 : decode cX4_send 26 = .ok (.ireturn, 1) := by decide +kernel
theorem dX4_send_27 : decode cX4_send 27 = .ok (.aload_n 0, 1) := by decide +kernel
theorem dX4_send_28 : decode cX4_send 28 = .ok (.getfield 29, 3) := by decide +kernel
theorem dX4_send_31 : decode cX4_send 31 = .ok (.aload_n 0, 1) := by decide +kernel
theorem dX4_send_32 : decode cX4_send 32 = .ok (.getfield 19, 3) := by decide +kernel
theorem dX4_send_35 : decode cX4_send 35 = .ok (.invokevirtual 107, 3) := by decide +kernel
theorem dX4_send_38 : decode cX4_send 38 = .ok (.aload_n 0, 1) := by decide +kernel
theorem dX4_send_39 : decode cX4_send 39 = .ok (.getfield 19, 3) := by decide +kernel
theorem dX4_send_42 : decode cX4_send 42 = .ok (.iload_n 1, 1) := by decide +kernel
theorem dX4_send_43 : decode cX4_send 43 = .ok (.invokevirtual 110, 3) := by decide +kernel
theorem dX4_send_46 : decode cX4_send 46 = .ok (.ireturn, 1) := by decide +kernel
theorem dX4_miss_0 : decode cX4_miss 0 = .ok (.aload_n 0, 1) := by decide +kernel
theorem dX4_miss_1 : decode cX4_miss 1 = .ok (.getfield 19, 3) := by decide +kernel
theorem dX4_miss_4 : decode cX4_miss 4 = .ok (.iload_n 1, 1) := by decide +kernel
theorem dX4_miss_5 : decode cX4_miss 5 = .ok (.invokevirtual 67, 3) := by decide +kernel
theorem dX4_miss_8 : decode cX4_miss 8 = .ok (.ifCond .ne 5, 3) := by decide +kernel
theorem dX4_miss_11 : decode cX4_miss 11 = .ok (.iconst (-1), 1) := by decide +kernel
theorem dX4_miss_12 : decode cX4_miss 12 = .ok (.ireturn, 1) := by decide +kernel
theorem dX4_miss_13 : decode cX4_miss 13 = .ok (.aload_n 0, 1) := by decide +kernel
theorem dX4_miss_14 : decode cX4_miss 14 = .ok (.getfield 19, 3) := by decide +kernel
theorem dX4_miss_17 : decode cX4_miss 17 = .ok (.iload_n 1, 1) := by decide +kernel
theorem dX4_miss_18 : decode cX4_miss 18 = .ok (.invokevirtual 104, 3) := by decide +kernel
theorem dX4_miss_21 : decode cX4_miss 21 = .ok (.ifCond .ne 6, 3) := by decide +kernel
theorem dX4_miss_24 : decode cX4_miss 24 = .ok (.bipush (-3), 2) := by decide +kernel
theorem dX4_miss_26 : decode cX4_miss 26 = .ok (.ireturn, 1) := by decide +kernel
theorem dX4_miss_27 : decode cX4_miss 27 = .ok (.aload_n 0, 1) := by decide +kernel
theorem dX4_miss_28 : decode cX4_miss 28 = .ok (.getfield 29, 3) := by decide +kernel
theorem dX4_miss_31 : decode cX4_miss 31 = .ok (.aload_n 0, 1) := by decide +kernel
theorem dX4_miss_32 : decode cX4_miss 32 = .ok (.getfield 19, 3) := by decide +kernel
theorem dX4_miss_35 : decode cX4_miss 35 = .ok (.invokevirtual 107, 3) := by decide +kernel
theorem dX4_miss_38 : decode cX4_miss 38 = .ok (.aload_n 0, 1) := by decide +kernel
theorem dX4_miss_39 : decode cX4_miss 39 = .ok (.getfield 19, 3) := by decide +kernel
theorem dX4_miss_42 : decode cX4_miss 42 = .ok (.iload_n 1, 1) := by decide +kernel
theorem dX4_miss_43 : decode cX4_miss 43 = .ok (.invokevirtual 113, 3) := by decide +kernel
theorem dX4_miss_46 : decode cX4_miss 46 = .ok (.pop, 1) := by decide +kernel
theorem dX4_miss_47 : decode cX4_miss 47 = .ok (.aload_n 0, 1) := by decide +kernel
theorem dX4_miss_48 : decode cX4_miss 48 = .ok (.getfield 19, 3) := by decide +kernel
theorem dX4_miss_51 : decode cX4_miss 51 = .ok (.iload_n 1, 1) := by decide +kernel
theorem dX4_miss_52 : decode cX4_miss 52 = .ok (.iconst 3, 1) := by decide +kernel
theorem dX4_miss_53 : decode cX4_miss 53 = .ok (.invokevirtual 70, 3) := by decide +kernel
theorem dX4_miss_56 : decode cX4_miss 56 = .ok (.ireturn, 1) := by decide +kernel
theorem dX4_attempt_0 : decode cX4_attempt 0 = .ok (.aload_n 0, 1) := by decide +kernel
theorem dX4_attempt_1 : decode cX4_attempt 1 = .ok (.getfield 19, 3) := by decide +kernel
theorem dX4_attempt_4 : decode cX4_attempt 4 = .ok (.iload_n 1, 1) := by decide +kernel
theorem dX4_attempt_5 : decode cX4_attempt 5 = .ok (.invokevirtual 67, 3) := by decide +kernel
theorem dX4_attempt_8 : decode cX4_attempt 8 = .ok (.ifCond .ne 5, 3) := by decide +kernel
theorem dX4_attempt_11 : decode cX4_attempt 11 = .ok (.iconst (-1), 1) := by decide +kernel
theorem dX4_attempt_12 : decode cX4_attempt 12 = .ok (.ireturn, 1) := by decide +kernel
theorem dX4_attempt_13 : decode cX4_attempt 13 = .ok (.iload_n 2, 1) := by decide +kernel
theorem dX4_attempt_14 : decode cX4_attempt 14 = .ok (.invokestatic 93, 3) := by decide +kernel
theorem dX4_attempt_17 : decode cX4_attempt 17 = .ok (.ifCond .ne 6, 3) := by decide +kernel
theorem dX4_attempt_20 : decode cX4_attempt 20 = .ok (.bipush (-2), 2) := by decide +kernel
theorem dX4_attempt_22 : decode cX4_attempt 22 = .ok (.ireturn, 1) := by decide +kernel
theorem dX4_attempt_23 : decode cX4_attempt 23 = .ok (.aload_n 0, 1) := by decide +kernel
theorem dX4_attempt_24 : decode cX4_attempt 24 = .ok (.getfield 29, 3) := by decide +kernel
theorem dX4_attempt_27 : decode cX4_attempt 27 = .ok (.aload_n 0, 1) := by decide +kernel
theorem dX4_attempt_28 : decode cX4_attempt 28 = .ok (.getfield 19, 3) := by decide +kernel
theorem dX4_attempt_31 : decode cX4_attempt 31 = .ok (.invokevirtual 107, 3) := by decide +kernel
theorem dX4_attempt_34 : decode cX4_attempt 34 = .ok (.aload_n 0, 1) := by decide +kernel
theorem dX4_attempt_35 : decode cX4_attempt 35 = .ok (.getfield 19, 3) := by decide +kernel
theorem dX4_attempt_38 : decode cX4_attempt 38 = .ok (.iload_n 1, 1) := by decide +kernel
theorem dX4_attempt_39 : decode cX4_attempt 39 = .ok (.iload_n 2, 1) := by decide +kernel
theorem dX4_attempt_40 : decode cX4_attempt 40 = .ok (.invokevirtual 116, 3) := by decide +kernel
theorem dX4_attempt_43 : decode cX4_attempt 43 = .ok (.ireturn, 1) := by decide +kernel
theorem dX4_hear_0 : decode cX4_hear 0 = .ok (.aload_n 0, 1) := by decide +kernel
theorem dX4_hear_1 : decode cX4_hear 1 = .ok (.getfield 19, 3) := by decide +kernel
theorem dX4_hear_4 : decode cX4_hear 4 = .ok (.invokevirtual 119, 3) := by decide +kernel
theorem dX4_hear_7 : decode cX4_hear 7 = .ok (.bipush (-9), 2) := by decide +kernel
theorem dX4_hear_9 : decode cX4_hear 9 = .ok (.if_icmp .ne 6, 3) := by decide +kernel
theorem dX4_hear_12 : decode cX4_hear 12 = .ok (.bipush (-3), 2) := by decide +kernel
theorem dX4_hear_14 : decode cX4_hear 14 = .ok (.ireturn, 1) := by decide +kernel
theorem dX4_hear_15 : decode cX4_hear 15 = .ok (.aload_n 0, 1) := by decide +kernel
theorem dX4_hear_16 : decode cX4_hear 16 = .ok (.getfield 19, 3) := by decide +kernel
theorem dX4_hear_19 : decode cX4_hear 19 = .ok (.invokevirtual 122, 3) := by decide +kernel
theorem dX4_hear_22 : decode cX4_hear 22 = .ok (.bipush 8, 2) := by decide +kernel
theorem dX4_hear_24 : decode cX4_hear 24 = .ok (.if_icmp .lt 6, 3) := by decide +kernel
theorem dX4_hear_27 : decode cX4_hear 27 = .ok (.bipush (-4), 2) := by decide +kernel
theorem dX4_hear_29 : decode cX4_hear 29 = .ok (.ireturn, 1) := by decide +kernel
theorem dX4_hear_30 : decode cX4_hear 30 = .ok (.aload_n 0, 1) := by decide +kernel
theorem dX4_hear_31 : decode cX4_hear 31 = .ok (.getfield 29, 3) := by decide +kernel
theorem dX4_hear_34 : decode cX4_hear 34 = .ok (.aload_n 0, 1) := by decide +kernel
theorem dX4_hear_35 : decode cX4_hear 35 = .ok (.getfield 19, 3) := by decide +kernel
theorem dX4_hear_38 : decode cX4_hear 38 = .ok (.invokevirtual 107, 3) := by decide +kernel
theorem dX4_hear_41 : decode cX4_hear 41 = .ok (.aload_n 0, 1) := by decide +kernel
theorem dX4_hear_42 : decode cX4_hear 42 = .ok (.getfield 19, 3) := by decide +kernel
theorem dX4_hear_45 : decode cX4_hear 45 = .ok (.invokevirtual 125, 3) := by decide +kernel
theorem dX4_hear_48 : decode cX4_hear 48 = .ok (.aload_n 0, 1) := by decide +kernel
theorem dX4_hear_49 : decode cX4_hear 49 = .ok (.getfield 19, 3) := by decide +kernel
theorem dX4_hear_52 : decode cX4_hear 52 = .ok (.invokevirtual 119, 3) := by decide +kernel
theorem dX4_hear_55 : decode cX4_hear 55 = .ok (.invokestatic 128, 3) := by decide +kernel
theorem dX4_hear_58 : decode cX4_hear 58 = .ok (.ireturn, 1) := by decide +kernel
theorem dX4_renew_0 : decode cX4_renew 0 = .ok (.aload_n 0, 1) := by decide +kernel
theorem dX4_renew_1 : decode cX4_renew 1 = .ok (.getfield 19, 3) := by decide +kernel
theorem dX4_renew_4 : decode cX4_renew 4 = .ok (.iload_n 1, 1) := by decide +kernel
theorem dX4_renew_5 : decode cX4_renew 5 = .ok (.invokevirtual 67, 3) := by decide +kernel
theorem dX4_renew_8 : decode cX4_renew 8 = .ok (.ifCond .ne 5, 3) := by decide +kernel
theorem dX4_renew_11 : decode cX4_renew 11 = .ok (.iconst (-1), 1) := by decide +kernel
theorem dX4_renew_12 : decode cX4_renew 12 = .ok (.ireturn, 1) := by decide +kernel
theorem dX4_renew_13 : decode cX4_renew 13 = .ok (.iload_n 2, 1) := by decide +kernel
theorem dX4_renew_14 : decode cX4_renew 14 = .ok (.invokestatic 93, 3) := by decide +kernel
theorem dX4_renew_17 : decode cX4_renew 17 = .ok (.ifCond .eq 21, 3) := by decide +kernel
theorem dX4_renew_20 : decode cX4_renew 20 = .ok (.iload_n 3, 1) := by decide +kernel
theorem dX4_renew_21 : decode cX4_renew 21 = .ok (.invokestatic 93, 3) := by decide +kernel
theorem dX4_renew_24 : decode cX4_renew 24 = .ok (.ifCond .eq 14, 3) := by decide +kernel
theorem dX4_renew_27 : decode cX4_renew 27 = .ok (.iload 4, 2) := by decide +kernel
theorem dX4_renew_29 : decode cX4_renew 29 = .ok (.iconst 1, 1) := by decide +kernel
theorem dX4_renew_30 : decode cX4_renew 30 = .ok (.bipush 30, 2) := by decide +kernel
theorem dX4_renew_32 : decode cX4_renew 32 = .ok (.invokestatic 96, 3) := by decide +kernel
theorem dX4_renew_35 : decode cX4_renew 35 = .ok (.ifCond .ne 6, 3) := by decide +kernel
theorem dX4_renew_38 : decode cX4_renew 38 = .ok (.bipush (-2), 2) := by decide +kernel
theorem dX4_renew_40 : decode cX4_renew 40 = .ok (.ireturn, 1) := by decide +kernel
theorem dX4_renew_41 : decode cX4_renew 41 = .ok (.aload_n 0, 1) := by decide +kernel
theorem dX4_renew_42 : decode cX4_renew 42 = .ok (.getfield 19, 3) := by decide +kernel
theorem dX4_renew_45 : decode cX4_renew 45 = .ok (.iload_n 1, 1) := by decide +kernel
theorem dX4_renew_46 : decode cX4_renew 46 = .ok (.invokevirtual 104, 3) := by decide +kernel
theorem dX4_renew_49 : decode cX4_renew 49 = .ok (.ifCond .ne 6, 3) := by decide +kernel
theorem dX4_renew_52 : decode cX4_renew 52 = .ok (.bipush (-3), 2) := by decide +kernel
theorem dX4_renew_54 : decode cX4_renew 54 = .ok (.ireturn, 1) := by decide +kernel
theorem dX4_renew_55 : decode cX4_renew 55 = .ok (.aload_n 0, 1) := by decide +kernel
theorem dX4_renew_56 : decode cX4_renew 56 = .ok (.getfield 29, 3) := by decide +kernel
theorem dX4_renew_59 : decode cX4_renew 59 = .ok (.aload_n 0, 1) := by decide +kernel
theorem dX4_renew_60 : decode cX4_renew 60 = .ok (.getfield 19, 3) := by decide +kernel
theorem dX4_renew_63 : decode cX4_renew 63 = .ok (.invokevirtual 107, 3) := by decide +kernel
theorem dX4_renew_66 : decode cX4_renew 66 = .ok (.aload_n 0, 1) := by decide +kernel
theorem dX4_renew_67 : decode cX4_renew 67 = .ok (.getfield 19, 3) := by decide +kernel
theorem dX4_renew_70 : decode cX4_renew 70 = .ok (.iload_n 1, 1) := by decide +kernel
theorem dX4_renew_71 : decode cX4_renew 71 = .ok (.invokevirtual 110, 3) := by decide +kernel
theorem dX4_renew_74 : decode cX4_renew 74 = .ok (.istore 5, 2) := by decide +kernel
theorem dX4_renew_76 : decode cX4_renew 76 = .ok (.iload 5, 2) := by decide +kernel
theorem dX4_renew_78 : decode cX4_renew 78 = .ok (.ifCond .le 15, 3) := by decide +kernel
theorem dX4_renew_81 : decode cX4_renew 81 = .ok (.aload_n 0, 1) := by decide +kernel
theorem dX4_renew_82 : decode cX4_renew 82 = .ok (.getfield 19, 3) := by decide +kernel
theorem dX4_renew_85 : decode cX4_renew 85 = .ok (.iload_n 1, 1) := by decide +kernel
theorem dX4_renew_86 : decode cX4_renew 86 = .ok (.iload_n 2, 1) := by decide +kernel
theorem dX4_renew_87 : decode cX4_renew 87 = .ok (.iload_n 3, 1) := by decide +kernel
theorem dX4_renew_88 : decode cX4_renew 88 = .ok (.iload 4, 2) := by decide +kernel
theorem dX4_renew_90 : decode cX4_renew 90 = .ok (.invokevirtual 131, 3) := by decide +kernel
theorem dX4_renew_93 : decode cX4_renew 93 = .ok (.iload 5, 2) := by decide +kernel
theorem dX4_renew_95 : decode cX4_renew 95 = .ok (.ireturn, 1) := by decide +kernel
theorem dX4_widen_0 : decode cX4_widen 0 = .ok (.iload_n 1, 1) := by decide +kernel
theorem dX4_widen_1 : decode cX4_widen 1 = .ok (.iconst 1, 1) := by decide +kernel
theorem dX4_widen_2 : decode cX4_widen 2 = .ok (.bipush 6, 2) := by decide +kernel
theorem dX4_widen_4 : decode cX4_widen 4 = .ok (.invokestatic 96, 3) := by decide +kernel
theorem dX4_widen_7 : decode cX4_widen 7 = .ok (.ifCond .ne 6, 3) := by decide +kernel
theorem dX4_widen_10 : decode cX4_widen 10 = .ok (.bipush (-2), 2) := by decide +kernel
theorem dX4_widen_12 : decode cX4_widen 12 = .ok (.ireturn, 1) := by decide +kernel
theorem dX4_widen_13 : decode cX4_widen 13 = .ok (.aload_n 0, 1) := by decide +kernel
theorem dX4_widen_14 : decode cX4_widen 14 = .ok (.getfield 29, 3) := by decide +kernel
theorem dX4_widen_17 : decode cX4_widen 17 = .ok (.aload_n 0, 1) := by decide +kernel
theorem dX4_widen_18 : decode cX4_widen 18 = .ok (.getfield 19, 3) := by decide +kernel
theorem dX4_widen_21 : decode cX4_widen 21 = .ok (.invokevirtual 107, 3) := by decide +kernel
theorem dX4_widen_24 : decode cX4_widen 24 = .ok (.aload_n 0, 1) := by decide +kernel
theorem dX4_widen_25 : decode cX4_widen 25 = .ok (.getfield 19, 3) := by decide +kernel
theorem dX4_widen_28 : decode cX4_widen 28 = .ok (.invokevirtual 135, 3) := by decide +kernel
theorem dX4_widen_31 : decode cX4_widen 31 = .ok (.istore_n 2, 1) := by decide +kernel
theorem dX4_widen_32 : decode cX4_widen 32 = .ok (.aload_n 0, 1) := by decide +kernel
theorem dX4_widen_33 : decode cX4_widen 33 = .ok (.getfield 19, 3) := by decide +kernel
theorem dX4_widen_36 : decode cX4_widen 36 = .ok (.iload_n 1, 1) := by decide +kernel
theorem dX4_widen_37 : decode cX4_widen 37 = .ok (.invokevirtual 138, 3) := by decide +kernel
theorem dX4_widen_40 : decode cX4_widen 40 = .ok (.iload_n 2, 1) := by decide +kernel
theorem dX4_widen_41 : decode cX4_widen 41 = .ok (.ireturn, 1) := by decide +kernel
theorem dX4_undo_0 : decode cX4_undo 0 = .ok (.aload_n 0, 1) := by decide +kernel
theorem dX4_undo_1 : decode cX4_undo 1 = .ok (.getfield 29, 3) := by decide +kernel
theorem dX4_undo_4 : decode cX4_undo 4 = .ok (.aload_n 0, 1) := by decide +kernel
theorem dX4_undo_5 : decode cX4_undo 5 = .ok (.getfield 19, 3) := by decide +kernel
theorem dX4_undo_8 : decode cX4_undo 8 = .ok (.invokevirtual 142, 3) := by decide +kernel
theorem dX4_undo_11 : decode cX4_undo 11 = .ok (.ifCond .eq 13, 3) := by decide +kernel
theorem dX4_undo_14 : decode cX4_undo 14 = .ok (.aload_n 0, 1) := by decide +kernel
theorem dX4_undo_15 : decode cX4_undo 15 = .ok (.getfield 29, 3) := by decide +kernel
theorem dX4_undo_18 : decode cX4_undo 18 = .ok (.getfield 146, 3) := by decide +kernel
theorem dX4_undo_21 : decode cX4_undo 21 = .ok (.goto 5, 3) := by decide +kernel
theorem dX4_undo_24 : decode cX4_undo 24 = .ok (.bipush (-3), 2) := by decide +kernel
theorem dX4_undo_26 : decode cX4_undo 26 = .ok (.ireturn, 1) := by decide +kernel
theorem dX4_fits_0 : decode cX4_fits 0 = .ok (.aload_n 0, 1) := by decide +kernel
theorem dX4_fits_1 : decode cX4_fits 1 = .ok (.getfield 19, 3) := by decide +kernel
theorem dX4_fits_4 : decode cX4_fits 4 = .ok (.iload_n 1, 1) := by decide +kernel
theorem dX4_fits_5 : decode cX4_fits 5 = .ok (.invokevirtual 67, 3) := by decide +kernel
theorem dX4_fits_8 : decode cX4_fits 8 = .ok (.ifCond .ne 5, 3) := by decide +kernel
theorem dX4_fits_11 : decode cX4_fits 11 = .ok (.iconst (-1), 1) := by decide +kernel
theorem dX4_fits_12 : decode cX4_fits 12 = .ok (.ireturn, 1) := by decide +kernel
theorem dX4_fits_13 : decode cX4_fits 13 = .ok (.iload_n 2, 1) := by decide +kernel
theorem dX4_fits_14 : decode cX4_fits 14 = .ok (.invokestatic 93, 3) := by decide +kernel
theorem dX4_fits_17 : decode cX4_fits 17 = .ok (.ifCond .eq 15, 3) := by decide +kernel
theorem dX4_fits_20 : decode cX4_fits 20 = .ok (.aload_n 0, 1) := by decide +kernel
theorem dX4_fits_21 : decode cX4_fits 21 = .ok (.getfield 19, 3) := by decide +kernel
theorem dX4_fits_24 : decode cX4_fits 24 = .ok (.iload_n 1, 1) := by decide +kernel
theorem dX4_fits_25 : decode cX4_fits 25 = .ok (.iload_n 2, 1) := by decide +kernel
theorem dX4_fits_26 : decode cX4_fits 26 = .ok (.invokevirtual 149, 3) := by decide +kernel
theorem dX4_fits_29 : decode cX4_fits 29 = .ok (.goto 5, 3) := by decide +kernel
theorem dX4_fits_32 : decode cX4_fits 32 = .ok (.bipush (-2), 2) := by decide +kernel
theorem dX4_fits_34 : decode cX4_fits 34 = .ok (.ireturn, 1) := by decide +kernel
theorem dX4_fitting_0 : decode cX4_fitting 0 = .ok (.aload_n 0, 1) := by decide +kernel
theorem dX4_fitting_1 : decode cX4_fitting 1 = .ok (.getfield 19, 3) := by decide +kernel
theorem dX4_fitting_4 : decode cX4_fitting 4 = .ok (.iload_n 1, 1) := by decide +kernel
theorem dX4_fitting_5 : decode cX4_fitting 5 = .ok (.invokevirtual 67, 3) := by decide +kernel
theorem dX4_fitting_8 : decode cX4_fitting 8 = .ok (.ifCond .ne 5, 3) := by decide +kernel
theorem dX4_fitting_11 : decode cX4_fitting 11 = .ok (.iconst (-1), 1) := by decide +kernel
theorem dX4_fitting_12 : decode cX4_fitting 12 = .ok (.ireturn, 1) := by decide +kernel
theorem dX4_fitting_13 : decode cX4_fitting 13 = .ok (.iload_n 2, 1) := by decide +kernel
theorem dX4_fitting_14 : decode cX4_fitting 14 = .ok (.lookupswitch 44 #[(0, 26), (1, 35)], 26) := by decide +kernel
theorem dX4_fitting_40 : decode cX4_fitting 40 = .ok (.aload_n 0, 1) := by decide +kernel
theorem dX4_fitting_41 : decode cX4_fitting 41 = .ok (.getfield 19, 3) := by decide +kernel
theorem dX4_fitting_44 : decode cX4_fitting 44 = .ok (.iload_n 1, 1) := by decide +kernel
theorem dX4_fitting_45 : decode cX4_fitting 45 = .ok (.invokevirtual 152, 3) := by decide +kernel
theorem dX4_fitting_48 : decode cX4_fitting 48 = .ok (.ireturn, 1) := by decide +kernel
theorem dX4_fitting_49 : decode cX4_fitting 49 = .ok (.aload_n 0, 1) := by decide +kernel
theorem dX4_fitting_50 : decode cX4_fitting 50 = .ok (.getfield 19, 3) := by decide +kernel
theorem dX4_fitting_53 : decode cX4_fitting 53 = .ok (.iload_n 1, 1) := by decide +kernel
theorem dX4_fitting_54 : decode cX4_fitting 54 = .ok (.invokevirtual 155, 3) := by decide +kernel
theorem dX4_fitting_57 : decode cX4_fitting 57 = .ok (.ireturn, 1) := by decide +kernel
theorem dX4_fitting_58 : decode cX4_fitting 58 = .ok (.bipush (-2), 2) := by decide +kernel
theorem dX4_fitting_60 : decode cX4_fitting 60 = .ok (.ireturn, 1) := by decide +kernel
theorem dX4_thief_0 : decode cX4_thief 0 = .ok (.aload_n 0, 1) := by decide +kernel
theorem dX4_thief_1 : decode cX4_thief 1 = .ok (.getfield 19, 3) := by decide +kernel
theorem dX4_thief_4 : decode cX4_thief 4 = .ok (.iload_n 1, 1) := by decide +kernel
theorem dX4_thief_5 : decode cX4_thief 5 = .ok (.invokevirtual 67, 3) := by decide +kernel
theorem dX4_thief_8 : decode cX4_thief 8 = .ok (.ifCond .eq 14, 3) := by decide +kernel
theorem dX4_thief_11 : decode cX4_thief 11 = .ok (.aload_n 0, 1) := by decide +kernel
theorem dX4_thief_12 : decode cX4_thief 12 = .ok (.getfield 19, 3) := by decide +kernel
theorem dX4_thief_15 : decode cX4_thief 15 = .ok (.iload_n 1, 1) := by decide +kernel
theorem dX4_thief_16 : decode cX4_thief 16 = .ok (.invokevirtual 158, 3) := by decide +kernel
theorem dX4_thief_19 : decode cX4_thief 19 = .ok (.goto 4, 3) := by decide +kernel
theorem dX4_thief_22 : decode cX4_thief 22 = .ok (.iconst (-1), 1) := by decide +kernel
theorem dX4_thief_23 : decode cX4_thief 23 = .ok (.ireturn, 1) := by decide +kernel
theorem dX4_heard_0 : decode cX4_heard 0 = .ok (.aload_n 0, 1) := by decide +kernel
theorem dX4_heard_1 : decode cX4_heard 1 = .ok (.getfield 19, 3) := by decide +kernel
theorem dX4_heard_4 : decode cX4_heard 4 = .ok (.iload_n 1, 1) := by decide +kernel
theorem dX4_heard_5 : decode cX4_heard 5 = .ok (.invokevirtual 161, 3) := by decide +kernel
theorem dX4_heard_8 : decode cX4_heard 8 = .ok (.ireturn, 1) := by decide +kernel
theorem dX4_judge_0 : decode cX4_judge 0 = .ok (.iload_n 1, 1) := by decide +kernel
theorem dX4_judge_1 : decode cX4_judge 1 = .ok (.iconst 1, 1) := by decide +kernel
theorem dX4_judge_2 : decode cX4_judge 2 = .ok (.iconst 4, 1) := by decide +kernel
theorem dX4_judge_3 : decode cX4_judge 3 = .ok (.invokestatic 96, 3) := by decide +kernel
theorem dX4_judge_6 : decode cX4_judge 6 = .ok (.ifCond .eq 19, 3) := by decide +kernel
theorem dX4_judge_9 : decode cX4_judge 9 = .ok (.lload_n 2, 1) := by decide +kernel
theorem dX4_judge_10 : decode cX4_judge 10 = .ok (.lconst 0, 1) := by decide +kernel
theorem dX4_judge_11 : decode cX4_judge 11 = .ok (.lcmp, 1) := by decide +kernel
theorem dX4_judge_12 : decode cX4_judge 12 = .ok (.ifCond .lt 13, 3) := by decide +kernel
theorem dX4_judge_15 : decode cX4_judge 15 = .ok (.lload_n 2, 1) := by decide +kernel
theorem dX4_judge_16 : decode cX4_judge 16 = .ok (.iload_n 1, 1) := by decide +kernel
theorem dX4_judge_17 : decode cX4_judge 17 = .ok (.invokestatic 164, 3) := by decide +kernel
theorem dX4_judge_20 : decode cX4_judge 20 = .ok (.lconst 0, 1) := by decide +kernel
theorem dX4_judge_21 : decode cX4_judge 21 = .ok (.lcmp, 1) := by decide +kernel
theorem dX4_judge_22 : decode cX4_judge 22 = .ok (.ifCond .eq 6, 3) := by decide +kernel
theorem dX4_judge_25 : decode cX4_judge 25 = .ok (.bipush (-2), 2) := by decide +kernel
theorem dX4_judge_27 : decode cX4_judge 27 = .ok (.ireturn, 1) := by decide +kernel
theorem dX4_judge_28 : decode cX4_judge 28 = .ok (.aload_n 0, 1) := by decide +kernel
theorem dX4_judge_29 : decode cX4_judge 29 = .ok (.getfield 23, 3) := by decide +kernel
theorem dX4_judge_32 : decode cX4_judge 32 = .ok (.aload_n 0, 1) := by decide +kernel
theorem dX4_judge_33 : decode cX4_judge 33 = .ok (.getfield 19, 3) := by decide +kernel
theorem dX4_judge_36 : decode cX4_judge 36 = .ok (.invokevirtual 56, 3) := by decide +kernel
theorem dX4_judge_39 : decode cX4_judge 39 = .ok (.iconst 0, 1) := by decide +kernel
theorem dX4_judge_40 : decode cX4_judge 40 = .ok (.istore 4, 2) := by decide +kernel
theorem dX4_judge_42 : decode cX4_judge 42 = .ok (.iload 4, 2) := by decide +kernel
theorem dX4_judge_44 : decode cX4_judge 44 = .ok (.iload_n 1, 1) := by decide +kernel
theorem dX4_judge_45 : decode cX4_judge 45 = .ok (.if_icmp .ge 38, 3) := by decide +kernel
theorem dX4_judge_48 : decode cX4_judge 48 = .ok (.lload_n 2, 1) := by decide +kernel
theorem dX4_judge_49 : decode cX4_judge 49 = .ok (.iload_n 1, 1) := by decide +kernel
theorem dX4_judge_50 : decode cX4_judge 50 = .ok (.iconst 1, 1) := by decide +kernel
theorem dX4_judge_51 : decode cX4_judge 51 = .ok (.isub, 1) := by decide +kernel
theorem dX4_judge_52 : decode cX4_judge 52 = .ok (.iload 4, 2) := by decide +kernel
theorem dX4_judge_54 : decode cX4_judge 54 = .ok (.isub, 1) := by decide +kernel
theorem dX4_judge_55 : decode cX4_judge 55 = .ok (.invokestatic 164, 3) := by decide +kernel
theorem dX4_judge_58 : decode cX4_judge 58 = .ok (.ldc2_w 168, 3) := by decide +kernel
theorem dX4_judge_61 : decode cX4_judge 61 = .ok (.lrem, 1) := by decide +kernel
theorem dX4_judge_62 : decode cX4_judge 62 = .ok (.l2i, 1) := by decide +kernel
theorem dX4_judge_63 : decode cX4_judge 63 = .ok (.istore 5, 2) := by decide +kernel
theorem dX4_judge_65 : decode cX4_judge 65 = .ok (.aload_n 0, 1) := by decide +kernel
theorem dX4_judge_66 : decode cX4_judge 66 = .ok (.iload 5, 2) := by decide +kernel
theorem dX4_judge_68 : decode cX4_judge 68 = .ok (.invokevirtual 170, 3) := by decide +kernel
theorem dX4_judge_71 : decode cX4_judge 71 = .ok (.ifCond .ne 6, 3) := by decide +kernel
theorem dX4_judge_74 : decode cX4_judge 74 = .ok (.iload 4, 2) := by decide +kernel
theorem dX4_judge_76 : decode cX4_judge 76 = .ok (.ireturn, 1) := by decide +kernel
theorem dX4_judge_77 : decode cX4_judge 77 = .ok (.iinc 4 1, 3) := by decide +kernel
theorem dX4_judge_80 : decode cX4_judge 80 = .ok (.goto (-38), 3) := by decide +kernel
theorem dX4_judge_83 : decode cX4_judge 83 = .ok (.bipush (-9), 2) := by decide +kernel
theorem dX4_judge_85 : decode cX4_judge 85 = .ok (.ireturn, 1) := by decide +kernel
theorem dX4_see_0 : decode cX4_see 0 = .ok (.iload_n 1, 1) := by decide +kernel
theorem dX4_see_1 : decode cX4_see 1 = .ok (.iconst 0, 1) := by decide +kernel
theorem dX4_see_2 : decode cX4_see 2 = .ok (.iconst 3, 1) := by decide +kernel
theorem dX4_see_3 : decode cX4_see 3 = .ok (.invokestatic 96, 3) := by decide +kernel
theorem dX4_see_6 : decode cX4_see 6 = .ok (.ifCond .ne 5, 3) := by decide +kernel
theorem dX4_see_9 : decode cX4_see 9 = .ok (.iconst (-1), 1) := by decide +kernel
theorem dX4_see_10 : decode cX4_see 10 = .ok (.ireturn, 1) := by decide +kernel
theorem dX4_see_11 : decode cX4_see 11 = .ok (.iload_n 2, 1) := by decide +kernel
theorem dX4_see_12 : decode cX4_see 12 = .ok (.iconst 0, 1) := by decide +kernel
theorem dX4_see_13 : decode cX4_see 13 = .ok (.bipush 29, 2) := by decide +kernel
theorem dX4_see_15 : decode cX4_see 15 = .ok (.invokestatic 96, 3) := by decide +kernel
theorem dX4_see_18 : decode cX4_see 18 = .ok (.ifCond .eq 10, 3) := by decide +kernel
theorem dX4_see_21 : decode cX4_see 21 = .ok (.iload_n 3, 1) := by decide +kernel
theorem dX4_see_22 : decode cX4_see 22 = .ok (.invokestatic 93, 3) := by decide +kernel
theorem dX4_see_25 : decode cX4_see 25 = .ok (.ifCond .ne 6, 3) := by decide +kernel
theorem dX4_see_28 : decode cX4_see 28 = .ok (.bipush (-2), 2) := by decide +kernel
theorem dX4_see_30 : decode cX4_see 30 = .ok (.ireturn, 1) := by decide +kernel
theorem dX4_see_31 : decode cX4_see 31 = .ok (.aload_n 0, 1) := by decide +kernel
theorem dX4_see_32 : decode cX4_see 32 = .ok (.getfield 36, 3) := by decide +kernel
theorem dX4_see_35 : decode cX4_see 35 = .ok (.iload_n 1, 1) := by decide +kernel
theorem dX4_see_36 : decode cX4_see 36 = .ok (.iload_n 2, 1) := by decide +kernel
theorem dX4_see_37 : decode cX4_see 37 = .ok (.iload_n 3, 1) := by decide +kernel
theorem dX4_see_38 : decode cX4_see 38 = .ok (.invokevirtual 173, 3) := by decide +kernel
theorem dX4_see_41 : decode cX4_see 41 = .ok (.ifCond .eq 13, 3) := by decide +kernel
theorem dX4_see_44 : decode cX4_see 44 = .ok (.aload_n 0, 1) := by decide +kernel
theorem dX4_see_45 : decode cX4_see 45 = .ok (.getfield 36, 3) := by decide +kernel
theorem dX4_see_48 : decode cX4_see 48 = .ok (.getfield 176, 3) := by decide +kernel
theorem dX4_see_51 : decode cX4_see 51 = .ok (.goto 5, 3) := by decide +kernel
theorem dX4_see_54 : decode cX4_see 54 = .ok (.bipush (-4), 2) := by decide +kernel
theorem dX4_see_56 : decode cX4_see 56 = .ok (.ireturn, 1) := by decide +kernel
theorem dX4_unsee_0 : decode cX4_unsee 0 = .ok (.aload_n 0, 1) := by decide +kernel
theorem dX4_unsee_1 : decode cX4_unsee 1 = .ok (.getfield 36, 3) := by decide +kernel
theorem dX4_unsee_4 : decode cX4_unsee 4 = .ok (.getfield 176, 3) := by decide +kernel
theorem dX4_unsee_7 : decode cX4_unsee 7 = .ok (.istore_n 1, 1) := by decide +kernel
theorem dX4_unsee_8 : decode cX4_unsee 8 = .ok (.aload_n 0, 1) := by decide +kernel
theorem dX4_unsee_9 : decode cX4_unsee 9 = .ok (.getfield 36, 3) := by decide +kernel
theorem dX4_unsee_12 : decode cX4_unsee 12 = .ok (.iconst 0, 1) := by decide +kernel
theorem dX4_unsee_13 : decode cX4_unsee 13 = .ok (.putfield 176, 3) := by decide +kernel
theorem dX4_unsee_16 : decode cX4_unsee 16 = .ok (.iload_n 1, 1) := by decide +kernel
theorem dX4_unsee_17 : decode cX4_unsee 17 = .ok (.ireturn, 1) := by decide +kernel
theorem dX4_which_0 : decode cX4_which 0 = .ok (.iload_n 1, 1) := by decide +kernel
theorem dX4_which_1 : decode cX4_which 1 = .ok (.lookupswitch 51 #[(0, 27), (1, 39)], 27) := by decide +kernel
theorem dX4_which_28 : decode cX4_which 28 = .ok (.aload_n 0, 1) := by decide +kernel
theorem dX4_which_29 : decode cX4_which 29 = .ok (.getfield 36, 3) := by decide +kernel
theorem dX4_which_32 : decode cX4_which 32 = .ok (.aload_n 0, 1) := by decide +kernel
theorem dX4_which_33 : decode cX4_which 33 = .ok (.getfield 19, 3) := by decide +kernel
theorem dX4_which_36 : decode cX4_which 36 = .ok (.invokevirtual 179, 3) := by decide +kernel
theorem dX4_which_39 : decode cX4_which 39 = .ok (.ireturn, 1) := by decide +kernel
theorem dX4_which_40 : decode cX4_which 40 = .ok (.aload_n 0, 1) := by decide +kernel
theorem dX4_which_41 : decode cX4_which 41 = .ok (.getfield 36, 3) := by decide +kernel
theorem dX4_which_44 : decode cX4_which 44 = .ok (.aload_n 0, 1) := by decide +kernel
theorem dX4_which_45 : decode cX4_which 45 = .ok (.getfield 19, 3) := by decide +kernel
theorem dX4_which_48 : decode cX4_which 48 = .ok (.invokevirtual 182, 3) := by decide +kernel
theorem dX4_which_51 : decode cX4_which 51 = .ok (.ireturn, 1) := by decide +kernel
theorem dX4_which_52 : decode cX4_which 52 = .ok (.bipush (-2), 2) := by decide +kernel
theorem dX4_which_54 : decode cX4_which 54 = .ok (.ireturn, 1) := by decide +kernel
theorem dX4_share_0 : decode cX4_share 0 = .ok (.aload_n 0, 1) := by decide +kernel
theorem dX4_share_1 : decode cX4_share 1 = .ok (.getfield 19, 3) := by decide +kernel
theorem dX4_share_4 : decode cX4_share 4 = .ok (.iload_n 1, 1) := by decide +kernel
theorem dX4_share_5 : decode cX4_share 5 = .ok (.invokevirtual 67, 3) := by decide +kernel
theorem dX4_share_8 : decode cX4_share 8 = .ok (.ifCond .ne 5, 3) := by decide +kernel
theorem dX4_share_11 : decode cX4_share 11 = .ok (.iconst (-1), 1) := by decide +kernel
theorem dX4_share_12 : decode cX4_share 12 = .ok (.ireturn, 1) := by decide +kernel
theorem dX4_share_13 : decode cX4_share 13 = .ok (.lconst 0, 1) := by decide +kernel
theorem dX4_share_14 : decode cX4_share 14 = .ok (.lstore_n 3, 1) := by decide +kernel
theorem dX4_share_15 : decode cX4_share 15 = .ok (.iconst 0, 1) := by decide +kernel
theorem dX4_share_16 : decode cX4_share 16 = .ok (.istore 5, 2) := by decide +kernel
theorem dX4_share_18 : decode cX4_share 18 = .ok (.iload 5, 2) := by decide +kernel
theorem dX4_share_20 : decode cX4_share 20 = .ok (.sipush 251, 3) := by decide +kernel
theorem dX4_share_23 : decode cX4_share 23 = .ok (.if_icmp .ge 51, 3) := by decide +kernel
theorem dX4_share_26 : decode cX4_share 26 = .ok (.aload_n 0, 1) := by decide +kernel
theorem dX4_share_27 : decode cX4_share 27 = .ok (.getfield 19, 3) := by decide +kernel
theorem dX4_share_30 : decode cX4_share 30 = .ok (.iload_n 1, 1) := by decide +kernel
theorem dX4_share_31 : decode cX4_share 31 = .ok (.iload 5, 2) := by decide +kernel
theorem dX4_share_33 : decode cX4_share 33 = .ok (.invokevirtual 149, 3) := by decide +kernel
theorem dX4_share_36 : decode cX4_share 36 = .ok (.ifCond .le 15, 3) := by decide +kernel
theorem dX4_share_39 : decode cX4_share 39 = .ok (.aload_n 0, 1) := by decide +kernel
theorem dX4_share_40 : decode cX4_share 40 = .ok (.getfield 19, 3) := by decide +kernel
theorem dX4_share_43 : decode cX4_share 43 = .ok (.iload 5, 2) := by decide +kernel
theorem dX4_share_45 : decode cX4_share 45 = .ok (.invokevirtual 185, 3) := by decide +kernel
theorem dX4_share_48 : decode cX4_share 48 = .ok (.goto 4, 3) := by decide +kernel
theorem dX4_share_51 : decode cX4_share 51 = .ok (.iconst 0, 1) := by decide +kernel
theorem dX4_share_52 : decode cX4_share 52 = .ok (.istore 6, 2) := by decide +kernel
theorem dX4_share_54 : decode cX4_share 54 = .ok (.iload 6, 2) := by decide +kernel
theorem dX4_share_56 : decode cX4_share 56 = .ok (.ifCond .le 12, 3) := by decide +kernel
theorem dX4_share_59 : decode cX4_share 59 = .ok (.lload_n 3, 1) := by decide +kernel
theorem dX4_share_60 : decode cX4_share 60 = .ok (.bipush 12, 2) := by decide +kernel
theorem dX4_share_62 : decode cX4_share 62 = .ok (.iload 6, 2) := by decide +kernel
theorem dX4_share_64 : decode cX4_share 64 = .ok (.idiv, 1) := by decide +kernel
theorem dX4_share_65 : decode cX4_share 65 = .ok (.i2l, 1) := by decide +kernel
theorem dX4_share_66 : decode cX4_share 66 = .ok (.ladd, 1) := by decide +kernel
theorem dX4_share_67 : decode cX4_share 67 = .ok (.lstore_n 3, 1) := by decide +kernel
theorem dX4_share_68 : decode cX4_share 68 = .ok (.iinc 5 1, 3) := by decide +kernel
theorem dX4_share_71 : decode cX4_share 71 = .ok (.goto (-53), 3) := by decide +kernel
theorem dX4_share_74 : decode cX4_share 74 = .ok (.lload_n 3, 1) := by decide +kernel
theorem dX4_share_75 : decode cX4_share 75 = .ok (.ldc2_w 188, 3) := by decide +kernel
theorem dX4_share_78 : decode cX4_share 78 = .ok (.iload_n 2, 1) := by decide +kernel
theorem dX4_share_79 : decode cX4_share 79 = .ok (.invokestatic 190, 3) := by decide +kernel
theorem dX4_share_82 : decode cX4_share 82 = .ok (.ireturn, 1) := by decide +kernel
theorem dX4_guess_0 : decode cX4_guess 0 = .ok (.aload_n 0, 1) := by decide +kernel
theorem dX4_guess_1 : decode cX4_guess 1 = .ok (.getfield 19, 3) := by decide +kernel
theorem dX4_guess_4 : decode cX4_guess 4 = .ok (.iload_n 1, 1) := by decide +kernel
theorem dX4_guess_5 : decode cX4_guess 5 = .ok (.invokevirtual 67, 3) := by decide +kernel
theorem dX4_guess_8 : decode cX4_guess 8 = .ok (.ifCond .ne 5, 3) := by decide +kernel
theorem dX4_guess_11 : decode cX4_guess 11 = .ok (.iconst (-1), 1) := by decide +kernel
theorem dX4_guess_12 : decode cX4_guess 12 = .ok (.ireturn, 1) := by decide +kernel
theorem dX4_guess_13 : decode cX4_guess 13 = .ok (.iload_n 2, 1) := by decide +kernel
theorem dX4_guess_14 : decode cX4_guess 14 = .ok (.iconst 0, 1) := by decide +kernel
theorem dX4_guess_15 : decode cX4_guess 15 = .ok (.iconst 3, 1) := by decide +kernel
theorem dX4_guess_16 : decode cX4_guess 16 = .ok (.invokestatic 96, 3) := by decide +kernel
theorem dX4_guess_19 : decode cX4_guess 19 = .ok (.ifCond .ne 6, 3) := by decide +kernel
theorem dX4_guess_22 : decode cX4_guess 22 = .ok (.bipush (-2), 2) := by decide +kernel
theorem dX4_guess_24 : decode cX4_guess 24 = .ok (.ireturn, 1) := by decide +kernel
theorem dX4_guess_25 : decode cX4_guess 25 = .ok (.sipush 251, 3) := by decide +kernel
theorem dX4_guess_28 : decode cX4_guess 28 = .ok (.iload_n 2, 1) := by decide +kernel
theorem dX4_guess_29 : decode cX4_guess 29 = .ok (.invokestatic 194, 3) := by decide +kernel
theorem dX4_guess_32 : decode cX4_guess 32 = .ok (.lstore 4, 2) := by decide +kernel
theorem dX4_guess_34 : decode cX4_guess 34 = .ok (.sipush 251, 3) := by decide +kernel
theorem dX4_guess_37 : decode cX4_guess 37 = .ok (.aload_n 0, 1) := by decide +kernel
theorem dX4_guess_38 : decode cX4_guess 38 = .ok (.getfield 19, 3) := by decide +kernel
theorem dX4_guess_41 : decode cX4_guess 41 = .ok (.iload_n 1, 1) := by decide +kernel
theorem dX4_guess_42 : decode cX4_guess 42 = .ok (.invokevirtual 152, 3) := by decide +kernel
theorem dX4_guess_45 : decode cX4_guess 45 = .ok (.isub, 1) := by decide +kernel
theorem dX4_guess_46 : decode cX4_guess 46 = .ok (.iload_n 2, 1) := by decide +kernel
theorem dX4_guess_47 : decode cX4_guess 47 = .ok (.invokestatic 194, 3) := by decide +kernel
theorem dX4_guess_50 : decode cX4_guess 50 = .ok (.lstore 6, 2) := by decide +kernel
theorem dX4_guess_52 : decode cX4_guess 52 = .ok (.lload 4, 2) := by decide +kernel
theorem dX4_guess_54 : decode cX4_guess 54 = .ok (.lload 6, 2) := by decide +kernel
theorem dX4_guess_56 : decode cX4_guess 56 = .ok (.lsub, 1) := by decide +kernel
theorem dX4_guess_57 : decode cX4_guess 57 = .ok (.lload 4, 2) := by decide +kernel
theorem dX4_guess_59 : decode cX4_guess 59 = .ok (.iload_n 3, 1) := by decide +kernel
theorem dX4_guess_60 : decode cX4_guess 60 = .ok (.invokestatic 190, 3) := by decide +kernel
theorem dX4_guess_63 : decode cX4_guess 63 = .ok (.ireturn, 1) := by decide +kernel
theorem dX4_loss_0 : decode cX4_loss 0 = .ok (.aload_n 0, 1) := by decide +kernel
theorem dX4_loss_1 : decode cX4_loss 1 = .ok (.getfield 19, 3) := by decide +kernel
theorem dX4_loss_4 : decode cX4_loss 4 = .ok (.iload_n 1, 1) := by decide +kernel
theorem dX4_loss_5 : decode cX4_loss 5 = .ok (.invokevirtual 67, 3) := by decide +kernel
theorem dX4_loss_8 : decode cX4_loss 8 = .ok (.ifCond .ne 5, 3) := by decide +kernel
theorem dX4_loss_11 : decode cX4_loss 11 = .ok (.iconst (-1), 1) := by decide +kernel
theorem dX4_loss_12 : decode cX4_loss 12 = .ok (.ireturn, 1) := by decide +kernel
theorem dX4_loss_13 : decode cX4_loss 13 = .ok (.iload_n 2, 1) := by decide +kernel
theorem dX4_loss_14 : decode cX4_loss 14 = .ok (.iconst 0, 1) := by decide +kernel
theorem dX4_loss_15 : decode cX4_loss 15 = .ok (.bipush 6, 2) := by decide +kernel
theorem dX4_loss_17 : decode cX4_loss 17 = .ok (.invokestatic 96, 3) := by decide +kernel
theorem dX4_loss_20 : decode cX4_loss 20 = .ok (.ifCond .eq 13, 3) := by decide +kernel
theorem dX4_loss_23 : decode cX4_loss 23 = .ok (.iload_n 3, 1) := by decide +kernel
theorem dX4_loss_24 : decode cX4_loss 24 = .ok (.iconst 0, 1) := by decide +kernel
theorem dX4_loss_25 : decode cX4_loss 25 = .ok (.bipush 10, 2) := by decide +kernel
theorem dX4_loss_27 : decode cX4_loss 27 = .ok (.invokestatic 96, 3) := by decide +kernel
theorem dX4_loss_30 : decode cX4_loss 30 = .ok (.ifCond .ne 6, 3) := by decide +kernel
theorem dX4_loss_33 : decode cX4_loss 33 = .ok (.bipush (-2), 2) := by decide +kernel
theorem dX4_loss_35 : decode cX4_loss 35 = .ok (.ireturn, 1) := by decide +kernel
theorem dX4_loss_36 : decode cX4_loss 36 = .ok (.iload_n 2, 1) := by decide +kernel
theorem dX4_loss_37 : decode cX4_loss 37 = .ok (.aload_n 0, 1) := by decide +kernel
theorem dX4_loss_38 : decode cX4_loss 38 = .ok (.getfield 19, 3) := by decide +kernel
theorem dX4_loss_41 : decode cX4_loss 41 = .ok (.iload_n 1, 1) := by decide +kernel
theorem dX4_loss_42 : decode cX4_loss 42 = .ok (.iconst 3, 1) := by decide +kernel
theorem dX4_loss_43 : decode cX4_loss 43 = .ok (.invokevirtual 70, 3) := by decide +kernel
theorem dX4_loss_46 : decode cX4_loss 46 = .ok (.if_icmp .le 6, 3) := by decide +kernel
theorem dX4_loss_49 : decode cX4_loss 49 = .ok (.bipush (-3), 2) := by decide +kernel
theorem dX4_loss_51 : decode cX4_loss 51 = .ok (.ireturn, 1) := by decide +kernel
theorem dX4_loss_52 : decode cX4_loss 52 = .ok (.lconst 0, 1) := by decide +kernel
theorem dX4_loss_53 : decode cX4_loss 53 = .ok (.lstore 5, 2) := by decide +kernel
theorem dX4_loss_55 : decode cX4_loss 55 = .ok (.iconst 0, 1) := by decide +kernel
theorem dX4_loss_56 : decode cX4_loss 56 = .ok (.istore 7, 2) := by decide +kernel
theorem dX4_loss_58 : decode cX4_loss 58 = .ok (.iload 7, 2) := by decide +kernel
theorem dX4_loss_60 : decode cX4_loss 60 = .ok (.iconst 1, 1) := by decide +kernel
theorem dX4_loss_61 : decode cX4_loss 61 = .ok (.iload_n 2, 1) := by decide +kernel
theorem dX4_loss_62 : decode cX4_loss 62 = .ok (.ishl, 1) := by decide +kernel
theorem dX4_loss_63 : decode cX4_loss 63 = .ok (.if_icmp .ge 23, 3) := by decide +kernel
theorem dX4_loss_66 : decode cX4_loss 66 = .ok (.lload 5, 2) := by decide +kernel
theorem dX4_loss_68 : decode cX4_loss 68 = .ok (.aload_n 0, 1) := by decide +kernel
theorem dX4_loss_69 : decode cX4_loss 69 = .ok (.iload_n 1, 1) := by decide +kernel
theorem dX4_loss_70 : decode cX4_loss 70 = .ok (.iload_n 2, 1) := by decide +kernel
theorem dX4_loss_71 : decode cX4_loss 71 = .ok (.iload_n 3, 1) := by decide +kernel
theorem dX4_loss_72 : decode cX4_loss 72 = .ok (.iload 7, 2) := by decide +kernel
theorem dX4_loss_74 : decode cX4_loss 74 = .ok (.invokevirtual 198, 3) := by decide +kernel
theorem dX4_loss_77 : decode cX4_loss 77 = .ok (.ladd, 1) := by decide +kernel
theorem dX4_loss_78 : decode cX4_loss 78 = .ok (.lstore 5, 2) := by decide +kernel
theorem dX4_loss_80 : decode cX4_loss 80 = .ok (.iinc 7 1, 3) := by decide +kernel
theorem dX4_loss_83 : decode cX4_loss 83 = .ok (.goto (-25), 3) := by decide +kernel
theorem dX4_loss_86 : decode cX4_loss 86 = .ok (.lload 5, 2) := by decide +kernel
theorem dX4_loss_88 : decode cX4_loss 88 = .ok (.bipush 10, 2) := by decide +kernel
theorem dX4_loss_90 : decode cX4_loss 90 = .ok (.iload_n 2, 1) := by decide +kernel
theorem dX4_loss_91 : decode cX4_loss 91 = .ok (.invokestatic 194, 3) := by decide +kernel
theorem dX4_loss_94 : decode cX4_loss 94 = .ok (.iload 4, 2) := by decide +kernel
theorem dX4_loss_96 : decode cX4_loss 96 = .ok (.invokestatic 190, 3) := by decide +kernel
theorem dX4_loss_99 : decode cX4_loss 99 = .ok (.ireturn, 1) := by decide +kernel
theorem dX4_seed_0 : decode cX4_seed 0 = .ok (.aload_n 0, 1) := by decide +kernel
theorem dX4_seed_1 : decode cX4_seed 1 = .ok (.getfield 40, 3) := by decide +kernel
theorem dX4_seed_4 : decode cX4_seed 4 = .ok (.lstore_n 3, 1) := by decide +kernel
theorem dX4_seed_5 : decode cX4_seed 5 = .ok (.aload_n 0, 1) := by decide +kernel
theorem dX4_seed_6 : decode cX4_seed 6 = .ok (.lload_n 1, 1) := by decide +kernel
theorem dX4_seed_7 : decode cX4_seed 7 = .ok (.putfield 40, 3) := by decide +kernel
theorem dX4_seed_10 : decode cX4_seed 10 = .ok (.lload_n 3, 1) := by decide +kernel
theorem dX4_seed_11 : decode cX4_seed 11 = .ok (.lreturn, 1) := by decide +kernel
theorem dX4_drawn_0 : decode cX4_drawn 0 = .ok (.iload_n 1, 1) := by decide +kernel
theorem dX4_drawn_1 : decode cX4_drawn 1 = .ok (.iconst 1, 1) := by decide +kernel
theorem dX4_drawn_2 : decode cX4_drawn 2 = .ok (.bipush 60, 2) := by decide +kernel
theorem dX4_drawn_4 : decode cX4_drawn 4 = .ok (.invokestatic 96, 3) := by decide +kernel
theorem dX4_drawn_7 : decode cX4_drawn 7 = .ok (.ifCond .ne 6, 3) := by decide +kernel
theorem dX4_drawn_10 : decode cX4_drawn 10 = .ok (.bipush (-2), 2) := by decide +kernel
theorem dX4_drawn_12 : decode cX4_drawn 12 = .ok (.ireturn, 1) := by decide +kernel
theorem dX4_drawn_13 : decode cX4_drawn 13 = .ok (.aload_n 0, 1) := by decide +kernel
theorem dX4_drawn_14 : decode cX4_drawn 14 = .ok (.getfield 23, 3) := by decide +kernel
theorem dX4_drawn_17 : decode cX4_drawn 17 = .ok (.aload_n 0, 1) := by decide +kernel
theorem dX4_drawn_18 : decode cX4_drawn 18 = .ok (.getfield 19, 3) := by decide +kernel
theorem dX4_drawn_21 : decode cX4_drawn 21 = .ok (.invokevirtual 56, 3) := by decide +kernel
theorem dX4_drawn_24 : decode cX4_drawn 24 = .ok (.iconst 0, 1) := by decide +kernel
theorem dX4_drawn_25 : decode cX4_drawn 25 = .ok (.istore_n 2, 1) := by decide +kernel
theorem dX4_drawn_26 : decode cX4_drawn 26 = .ok (.iconst 0, 1) := by decide +kernel
theorem dX4_drawn_27 : decode cX4_drawn 27 = .ok (.istore_n 3, 1) := by decide +kernel
theorem dX4_drawn_28 : decode cX4_drawn 28 = .ok (.iload_n 3, 1) := by decide +kernel
theorem dX4_drawn_29 : decode cX4_drawn 29 = .ok (.iload_n 1, 1) := by decide +kernel
theorem dX4_drawn_30 : decode cX4_drawn 30 = .ok (.if_icmp .ge 43, 3) := by decide +kernel
theorem dX4_drawn_33 : decode cX4_drawn 33 = .ok (.aload_n 0, 1) := by decide +kernel
theorem dX4_drawn_34 : decode cX4_drawn 34 = .ok (.aload_n 0, 1) := by decide +kernel
theorem dX4_drawn_35 : decode cX4_drawn 35 = .ok (.getfield 40, 3) := by decide +kernel
theorem dX4_drawn_38 : decode cX4_drawn 38 = .ok (.ldc2_w 202, 3) := by decide +kernel
theorem dX4_drawn_41 : decode cX4_drawn 41 = .ok (.lmul, 1) := by decide +kernel
theorem dX4_drawn_42 : decode cX4_drawn 42 = .ok (.ldc2_w 204, 3) := by decide +kernel
theorem dX4_drawn_45 : decode cX4_drawn 45 = .ok (.ladd, 1) := by decide +kernel
theorem dX4_drawn_46 : decode cX4_drawn 46 = .ok (.putfield 40, 3) := by decide +kernel
theorem dX4_drawn_49 : decode cX4_drawn 49 = .ok (.aload_n 0, 1) := by decide +kernel
theorem dX4_drawn_50 : decode cX4_drawn 50 = .ok (.aload_n 0, 1) := by decide +kernel
theorem dX4_drawn_51 : decode cX4_drawn 51 = .ok (.getfield 40, 3) := by decide +kernel
theorem dX4_drawn_54 : decode cX4_drawn 54 = .ok (.bipush 33, 2) := by decide +kernel
theorem dX4_drawn_56 : decode cX4_drawn 56 = .ok (.lushr, 1) := by decide +kernel
theorem dX4_drawn_57 : decode cX4_drawn 57 = .ok (.l2i, 1) := by decide +kernel
theorem dX4_drawn_58 : decode cX4_drawn 58 = .ok (.invokevirtual 206, 3) := by decide +kernel
theorem dX4_drawn_61 : decode cX4_drawn 61 = .ok (.ifCond .eq 6, 3) := by decide +kernel
theorem dX4_drawn_64 : decode cX4_drawn 64 = .ok (.iinc 2 1, 3) := by decide +kernel
theorem dX4_drawn_67 : decode cX4_drawn 67 = .ok (.iinc 3 1, 3) := by decide +kernel
theorem dX4_drawn_70 : decode cX4_drawn 70 = .ok (.goto (-42), 3) := by decide +kernel
theorem dX4_drawn_73 : decode cX4_drawn 73 = .ok (.iload_n 2, 1) := by decide +kernel
theorem dX4_drawn_74 : decode cX4_drawn 74 = .ok (.ireturn, 1) := by decide +kernel
theorem dX4_keep_0 : decode cX4_keep 0 = .ok (.aload_n 0, 1) := by decide +kernel
theorem dX4_keep_1 : decode cX4_keep 1 = .ok (.getfield 29, 3) := by decide +kernel
theorem dX4_keep_4 : decode cX4_keep 4 = .ok (.iload_n 1, 1) := by decide +kernel
theorem dX4_keep_5 : decode cX4_keep 5 = .ok (.aload_n 0, 1) := by decide +kernel
theorem dX4_keep_6 : decode cX4_keep 6 = .ok (.getfield 19, 3) := by decide +kernel
theorem dX4_keep_9 : decode cX4_keep 9 = .ok (.invokevirtual 209, 3) := by decide +kernel
theorem dX4_keep_12 : decode cX4_keep 12 = .ok (.ifCond .eq 13, 3) := by decide +kernel
theorem dX4_keep_15 : decode cX4_keep 15 = .ok (.aload_n 0, 1) := by decide +kernel
theorem dX4_keep_16 : decode cX4_keep 16 = .ok (.getfield 19, 3) := by decide +kernel
theorem dX4_keep_19 : decode cX4_keep 19 = .ok (.invokevirtual 63, 3) := by decide +kernel
theorem dX4_keep_22 : decode cX4_keep 22 = .ok (.goto 4, 3) := by decide +kernel
theorem dX4_keep_25 : decode cX4_keep 25 = .ok (.iconst (-1), 1) := by decide +kernel
theorem dX4_keep_26 : decode cX4_keep 26 = .ok (.ireturn, 1) := by decide +kernel
theorem dX4_again_0 : decode cX4_again 0 = .ok (.iload_n 1, 1) := by decide +kernel
theorem dX4_again_1 : decode cX4_again 1 = .ok (.iconst 0, 1) := by decide +kernel
theorem dX4_again_2 : decode cX4_again 2 = .ok (.iconst 1, 1) := by decide +kernel
theorem dX4_again_3 : decode cX4_again 3 = .ok (.invokestatic 96, 3) := by decide +kernel
theorem dX4_again_6 : decode cX4_again 6 = .ok (.ifCond .ne 5, 3) := by decide +kernel
theorem dX4_again_9 : decode cX4_again 9 = .ok (.iconst (-1), 1) := by decide +kernel
theorem dX4_again_10 : decode cX4_again 10 = .ok (.ireturn, 1) := by decide +kernel
theorem dX4_again_11 : decode cX4_again 11 = .ok (.aload_n 0, 1) := by decide +kernel
theorem dX4_again_12 : decode cX4_again 12 = .ok (.getfield 29, 3) := by decide +kernel
theorem dX4_again_15 : decode cX4_again 15 = .ok (.iload_n 1, 1) := by decide +kernel
theorem dX4_again_16 : decode cX4_again 16 = .ok (.aload_n 0, 1) := by decide +kernel
theorem dX4_again_17 : decode cX4_again 17 = .ok (.getfield 19, 3) := by decide +kernel
theorem dX4_again_20 : decode cX4_again 20 = .ok (.invokevirtual 213, 3) := by decide +kernel
theorem dX4_again_23 : decode cX4_again 23 = .ok (.ifCond .eq 13, 3) := by decide +kernel
theorem dX4_again_26 : decode cX4_again 26 = .ok (.aload_n 0, 1) := by decide +kernel
theorem dX4_again_27 : decode cX4_again 27 = .ok (.getfield 19, 3) := by decide +kernel
theorem dX4_again_30 : decode cX4_again 30 = .ok (.invokevirtual 63, 3) := by decide +kernel
theorem dX4_again_33 : decode cX4_again 33 = .ok (.goto 5, 3) := by decide +kernel
theorem dX4_again_36 : decode cX4_again 36 = .ok (.bipush (-3), 2) := by decide +kernel
theorem dX4_again_38 : decode cX4_again 38 = .ok (.ireturn, 1) := by decide +kernel
theorem dX4_count_0 : decode cX4_count 0 = .ok (.iload_n 1, 1) := by decide +kernel
theorem dX4_count_1 : decode cX4_count 1 = .ok (.tableswitch 99 0 6 #[43, 51, 59, 67, 75, 83, 91], 43) := by decide +kernel
theorem dX4_count_44 : decode cX4_count 44 = .ok (.aload_n 0, 1) := by decide +kernel
theorem dX4_count_45 : decode cX4_count 45 = .ok (.getfield 10, 3) := by decide +kernel
theorem dX4_count_48 : decode cX4_count 48 = .ok (.getfield 48, 3) := by decide +kernel
theorem dX4_count_51 : decode cX4_count 51 = .ok (.ireturn, 1) := by decide +kernel
theorem dX4_count_52 : decode cX4_count 52 = .ok (.aload_n 0, 1) := by decide +kernel
theorem dX4_count_53 : decode cX4_count 53 = .ok (.getfield 19, 3) := by decide +kernel
theorem dX4_count_56 : decode cX4_count 56 = .ok (.invokevirtual 63, 3) := by decide +kernel
theorem dX4_count_59 : decode cX4_count 59 = .ok (.ireturn, 1) := by decide +kernel
theorem dX4_count_60 : decode cX4_count 60 = .ok (.aload_n 0, 1) := by decide +kernel
theorem dX4_count_61 : decode cX4_count 61 = .ok (.getfield 19, 3) := by decide +kernel
theorem dX4_count_64 : decode cX4_count 64 = .ok (.invokevirtual 135, 3) := by decide +kernel
theorem dX4_count_67 : decode cX4_count 67 = .ok (.ireturn, 1) := by decide +kernel
theorem dX4_count_68 : decode cX4_count 68 = .ok (.aload_n 0, 1) := by decide +kernel
theorem dX4_count_69 : decode cX4_count 69 = .ok (.getfield 19, 3) := by decide +kernel
theorem dX4_count_72 : decode cX4_count 72 = .ok (.invokevirtual 119, 3) := by decide +kernel
theorem dX4_count_75 : decode cX4_count 75 = .ok (.ireturn, 1) := by decide +kernel
theorem dX4_count_76 : decode cX4_count 76 = .ok (.aload_n 0, 1) := by decide +kernel
theorem dX4_count_77 : decode cX4_count 77 = .ok (.getfield 19, 3) := by decide +kernel
theorem dX4_count_80 : decode cX4_count 80 = .ok (.invokevirtual 122, 3) := by decide +kernel
theorem dX4_count_83 : decode cX4_count 83 = .ok (.ireturn, 1) := by decide +kernel
theorem dX4_count_84 : decode cX4_count 84 = .ok (.aload_n 0, 1) := by decide +kernel
theorem dX4_count_85 : decode cX4_count 85 = .ok (.getfield 29, 3) := by decide +kernel
theorem dX4_count_88 : decode cX4_count 88 = .ok (.getfield 146, 3) := by decide +kernel
theorem dX4_count_91 : decode cX4_count 91 = .ok (.ireturn, 1) := by decide +kernel
theorem dX4_count_92 : decode cX4_count 92 = .ok (.aload_n 0, 1) := by decide +kernel
theorem dX4_count_93 : decode cX4_count 93 = .ok (.getfield 36, 3) := by decide +kernel
theorem dX4_count_96 : decode cX4_count 96 = .ok (.getfield 176, 3) := by decide +kernel
theorem dX4_count_99 : decode cX4_count 99 = .ok (.ireturn, 1) := by decide +kernel
theorem dX4_count_100 : decode cX4_count 100 = .ok (.bipush (-2), 2) := by decide +kernel
theorem dX4_count_102 : decode cX4_count 102 = .ok (.ireturn, 1) := by decide +kernel
theorem dX4_isWithin_0 : decode cX4_isWithin 0 = .ok (.iload_n 0, 1) := by decide +kernel
theorem dX4_isWithin_1 : decode cX4_isWithin 1 = .ok (.iload_n 1, 1) := by decide +kernel
theorem dX4_isWithin_2 : decode cX4_isWithin 2 = .ok (.if_icmp .lt 12, 3) := by decide +kernel
theorem dX4_isWithin_5 : decode cX4_isWithin 5 = .ok (.iload_n 0, 1) := by decide +kernel
theorem dX4_isWithin_6 : decode cX4_isWithin 6 = .ok (.iload_n 2, 1) := by decide +kernel
theorem dX4_isWithin_7 : decode cX4_isWithin 7 = .ok (.if_icmp .gt 7, 3) := by decide +kernel
theorem dX4_isWithin_10 : decode cX4_isWithin 10 = .ok (.iconst 1, 1) := by decide +kernel
theorem dX4_isWithin_11 : decode cX4_isWithin 11 = .ok (.goto 4, 3) := by decide +kernel
theorem dX4_isWithin_14 : decode cX4_isWithin 14 = .ok (.iconst 0, 1) := by decide +kernel
theorem dX4_isWithin_15 : decode cX4_isWithin 15 = .ok (.ireturn, 1) := by decide +kernel
theorem dX4_isNumber_0 : decode cX4_isNumber 0 = .ok (.iload_n 0, 1) := by decide +kernel
theorem dX4_isNumber_1 : decode cX4_isNumber 1 = .ok (.iconst 0, 1) := by decide +kernel
theorem dX4_isNumber_2 : decode cX4_isNumber 2 = .ok (.sipush 250, 3) := by decide +kernel
theorem dX4_isNumber_5 : decode cX4_isNumber 5 = .ok (.invokestatic 96, 3) := by decide +kernel
theorem dX4_isNumber_8 : decode cX4_isNumber 8 = .ok (.ireturn, 1) := by decide +kernel
theorem dX4_stepsBehind_0 : decode cX4_stepsBehind 0 = .ok (.iload_n 0, 1) := by decide +kernel
theorem dX4_stepsBehind_1 : decode cX4_stepsBehind 1 = .ok (.istore_n 3, 1) := by decide +kernel
theorem dX4_stepsBehind_2 : decode cX4_stepsBehind 2 = .ok (.iconst 0, 1) := by decide +kernel
theorem dX4_stepsBehind_3 : decode cX4_stepsBehind 3 = .ok (.istore 4, 2) := by decide +kernel
theorem dX4_stepsBehind_5 : decode cX4_stepsBehind 5 = .ok (.iload 4, 2) := by decide +kernel
theorem dX4_stepsBehind_7 : decode cX4_stepsBehind 7 = .ok (.iload_n 2, 1) := by decide +kernel
theorem dX4_stepsBehind_8 : decode cX4_stepsBehind 8 = .ok (.if_icmp .ge 19, 3) := by decide +kernel
theorem dX4_stepsBehind_11 : decode cX4_stepsBehind 11 = .ok (.iload_n 3, 1) := by decide +kernel
theorem dX4_stepsBehind_12 : decode cX4_stepsBehind 12 = .ok (.iload_n 3, 1) := by decide +kernel
theorem dX4_stepsBehind_13 : decode cX4_stepsBehind 13 = .ok (.imul, 1) := by decide +kernel
theorem dX4_stepsBehind_14 : decode cX4_stepsBehind 14 = .ok (.iload_n 1, 1) := by decide +kernel
theorem dX4_stepsBehind_15 : decode cX4_stepsBehind 15 = .ok (.iadd, 1) := by decide +kernel
theorem dX4_stepsBehind_16 : decode cX4_stepsBehind 16 = .ok (.sipush 251, 3) := by decide +kernel
theorem dX4_stepsBehind_19 : decode cX4_stepsBehind 19 = .ok (.irem, 1) := by decide +kernel
theorem dX4_stepsBehind_20 : decode cX4_stepsBehind 20 = .ok (.istore_n 3, 1) := by decide +kernel
theorem dX4_stepsBehind_21 : decode cX4_stepsBehind 21 = .ok (.iinc 4 1, 3) := by decide +kernel
theorem dX4_stepsBehind_24 : decode cX4_stepsBehind 24 = .ok (.goto (-19), 3) := by decide +kernel
theorem dX4_stepsBehind_27 : decode cX4_stepsBehind 27 = .ok (.iload_n 3, 1) := by decide +kernel
theorem dX4_stepsBehind_28 : decode cX4_stepsBehind 28 = .ok (.ireturn, 1) := by decide +kernel
theorem dX4_returnOf_0 : decode cX4_returnOf 0 = .ok (.iload_n 0, 1) := by decide +kernel
theorem dX4_returnOf_1 : decode cX4_returnOf 1 = .ok (.istore_n 2, 1) := by decide +kernel
theorem dX4_returnOf_2 : decode cX4_returnOf 2 = .ok (.iconst 1, 1) := by decide +kernel
theorem dX4_returnOf_3 : decode cX4_returnOf 3 = .ok (.istore_n 3, 1) := by decide +kernel
theorem dX4_returnOf_4 : decode cX4_returnOf 4 = .ok (.iload_n 3, 1) := by decide +kernel
theorem dX4_returnOf_5 : decode cX4_returnOf 5 = .ok (.sipush 251, 3) := by decide +kernel
theorem dX4_returnOf_8 : decode cX4_returnOf 8 = .ok (.if_icmp .gt 23, 3) := by decide +kernel
theorem dX4_returnOf_11 : decode cX4_returnOf 11 = .ok (.iload_n 2, 1) := by decide +kernel
theorem dX4_returnOf_12 : decode cX4_returnOf 12 = .ok (.iload_n 1, 1) := by decide +kernel
theorem dX4_returnOf_13 : decode cX4_returnOf 13 = .ok (.iconst 1, 1) := by decide +kernel
theorem dX4_returnOf_14 : decode cX4_returnOf 14 = .ok (.invokestatic 100, 3) := by decide +kernel
theorem dX4_returnOf_17 : decode cX4_returnOf 17 = .ok (.istore_n 2, 1) := by decide +kernel
theorem dX4_returnOf_18 : decode cX4_returnOf 18 = .ok (.iload_n 2, 1) := by decide +kernel
theorem dX4_returnOf_19 : decode cX4_returnOf 19 = .ok (.iload_n 0, 1) := by decide +kernel
theorem dX4_returnOf_20 : decode cX4_returnOf 20 = .ok (.if_icmp .ne 5, 3) := by decide +kernel
theorem dX4_returnOf_23 : decode cX4_returnOf 23 = .ok (.iload_n 3, 1) := by decide +kernel
theorem dX4_returnOf_24 : decode cX4_returnOf 24 = .ok (.ireturn, 1) := by decide +kernel
theorem dX4_returnOf_25 : decode cX4_returnOf 25 = .ok (.iinc 3 1, 3) := by decide +kernel
theorem dX4_returnOf_28 : decode cX4_returnOf 28 = .ok (.goto (-24), 3) := by decide +kernel
theorem dX4_returnOf_31 : decode cX4_returnOf 31 = .ok (.iconst 0, 1) := by decide +kernel
theorem dX4_returnOf_32 : decode cX4_returnOf 32 = .ok (.ireturn, 1) := by decide +kernel
theorem dX4_tailOf_0 : decode cX4_tailOf 0 = .ok (.iload_n 0, 1) := by decide +kernel
theorem dX4_tailOf_1 : decode cX4_tailOf 1 = .ok (.istore_n 2, 1) := by decide +kernel
theorem dX4_tailOf_2 : decode cX4_tailOf 2 = .ok (.iconst 0, 1) := by decide +kernel
theorem dX4_tailOf_3 : decode cX4_tailOf 3 = .ok (.istore_n 3, 1) := by decide +kernel
theorem dX4_tailOf_4 : decode cX4_tailOf 4 = .ok (.iload_n 3, 1) := by decide +kernel
theorem dX4_tailOf_5 : decode cX4_tailOf 5 = .ok (.sipush 251, 3) := by decide +kernel
theorem dX4_tailOf_8 : decode cX4_tailOf 8 = .ok (.if_icmp .ge 26, 3) := by decide +kernel
theorem dX4_tailOf_11 : decode cX4_tailOf 11 = .ok (.iload_n 2, 1) := by decide +kernel
theorem dX4_tailOf_12 : decode cX4_tailOf 12 = .ok (.iload_n 1, 1) := by decide +kernel
theorem dX4_tailOf_13 : decode cX4_tailOf 13 = .ok (.invokestatic 216, 3) := by decide +kernel
theorem dX4_tailOf_16 : decode cX4_tailOf 16 = .ok (.ifCond .le 5, 3) := by decide +kernel
theorem dX4_tailOf_19 : decode cX4_tailOf 19 = .ok (.iload_n 3, 1) := by decide +kernel
theorem dX4_tailOf_20 : decode cX4_tailOf 20 = .ok (.ireturn, 1) := by decide +kernel
theorem dX4_tailOf_21 : decode cX4_tailOf 21 = .ok (.iload_n 2, 1) := by decide +kernel
theorem dX4_tailOf_22 : decode cX4_tailOf 22 = .ok (.iload_n 1, 1) := by decide +kernel
theorem dX4_tailOf_23 : decode cX4_tailOf 23 = .ok (.iconst 1, 1) := by decide +kernel
theorem dX4_tailOf_24 : decode cX4_tailOf 24 = .ok (.invokestatic 100, 3) := by decide +kernel
theorem dX4_tailOf_27 : decode cX4_tailOf 27 = .ok (.istore_n 2, 1) := by decide +kernel
theorem dX4_tailOf_28 : decode cX4_tailOf 28 = .ok (.iinc 3 1, 3) := by decide +kernel
theorem dX4_tailOf_31 : decode cX4_tailOf 31 = .ok (.goto (-27), 3) := by decide +kernel
theorem dX4_tailOf_34 : decode cX4_tailOf 34 = .ok (.sipush 251, 3) := by decide +kernel
theorem dX4_tailOf_37 : decode cX4_tailOf 37 = .ok (.ireturn, 1) := by decide +kernel
theorem dX4_loopOf_0 : decode cX4_loopOf 0 = .ok (.iload_n 0, 1) := by decide +kernel
theorem dX4_loopOf_1 : decode cX4_loopOf 1 = .ok (.iload_n 1, 1) := by decide +kernel
theorem dX4_loopOf_2 : decode cX4_loopOf 2 = .ok (.iload_n 0, 1) := by decide +kernel
theorem dX4_loopOf_3 : decode cX4_loopOf 3 = .ok (.iload_n 1, 1) := by decide +kernel
theorem dX4_loopOf_4 : decode cX4_loopOf 4 = .ok (.invokestatic 84, 3) := by decide +kernel
theorem dX4_loopOf_7 : decode cX4_loopOf 7 = .ok (.invokestatic 100, 3) := by decide +kernel
theorem dX4_loopOf_10 : decode cX4_loopOf 10 = .ok (.iload_n 1, 1) := by decide +kernel
theorem dX4_loopOf_11 : decode cX4_loopOf 11 = .ok (.invokestatic 216, 3) := by decide +kernel
theorem dX4_loopOf_14 : decode cX4_loopOf 14 = .ok (.ireturn, 1) := by decide +kernel
theorem dX4_power_0 : decode cX4_power 0 = .ok (.lconst 1, 1) := by decide +kernel
theorem dX4_power_1 : decode cX4_power 1 = .ok (.lstore_n 2, 1) := by decide +kernel
theorem dX4_power_2 : decode cX4_power 2 = .ok (.iconst 0, 1) := by decide +kernel
theorem dX4_power_3 : decode cX4_power 3 = .ok (.istore 4, 2) := by decide +kernel
theorem dX4_power_5 : decode cX4_power 5 = .ok (.iload 4, 2) := by decide +kernel
theorem dX4_power_7 : decode cX4_power 7 = .ok (.iload_n 1, 1) := by decide +kernel
theorem dX4_power_8 : decode cX4_power 8 = .ok (.if_icmp .ge 14, 3) := by decide +kernel
theorem dX4_power_11 : decode cX4_power 11 = .ok (.lload_n 2, 1) := by decide +kernel
theorem dX4_power_12 : decode cX4_power 12 = .ok (.iload_n 0, 1) := by decide +kernel
theorem dX4_power_13 : decode cX4_power 13 = .ok (.i2l, 1) := by decide +kernel
theorem dX4_power_14 : decode cX4_power 14 = .ok (.lmul, 1) := by decide +kernel
theorem dX4_power_15 : decode cX4_power 15 = .ok (.lstore_n 2, 1) := by decide +kernel
theorem dX4_power_16 : decode cX4_power 16 = .ok (.iinc 4 1, 3) := by decide +kernel
theorem dX4_power_19 : decode cX4_power 19 = .ok (.goto (-14), 3) := by decide +kernel
theorem dX4_power_22 : decode cX4_power 22 = .ok (.lload_n 2, 1) := by decide +kernel
theorem dX4_power_23 : decode cX4_power 23 = .ok (.lreturn, 1) := by decide +kernel
theorem dX4_toldFraction_0 : decode cX4_toldFraction 0 = .ok (.lload_n 0, 1) := by decide +kernel
theorem dX4_toldFraction_1 : decode cX4_toldFraction 1 = .ok (.lload_n 2, 1) := by decide +kernel
theorem dX4_toldFraction_2 : decode cX4_toldFraction 2 = .ok (.invokestatic 219, 3) := by decide +kernel
theorem dX4_toldFraction_5 : decode cX4_toldFraction 5 = .ok (.lstore 5, 2) := by decide +kernel
theorem dX4_toldFraction_7 : decode cX4_toldFraction 7 = .ok (.lload 5, 2) := by decide +kernel
theorem dX4_toldFraction_9 : decode cX4_toldFraction 9 = .ok (.lconst 0, 1) := by decide +kernel
theorem dX4_toldFraction_10 : decode cX4_toldFraction 10 = .ok (.lcmp, 1) := by decide +kernel
theorem dX4_toldFraction_11 : decode cX4_toldFraction 11 = .ok (.ifCond .ne 5, 3) := by decide +kernel
theorem dX4_toldFraction_14 : decode cX4_toldFraction 14 = .ok (.iconst 0, 1) := by decide +kernel
theorem dX4_toldFraction_15 : decode cX4_toldFraction 15 = .ok (.ireturn, 1) := by decide +kernel
theorem dX4_toldFraction_16 : decode cX4_toldFraction 16 = .ok (.iload 4, 2) := by decide +kernel
theorem dX4_toldFraction_18 : decode cX4_toldFraction 18 = .ok (.ifCond .eq 7, 3) := by decide +kernel
theorem dX4_toldFraction_21 : decode cX4_toldFraction 21 = .ok (.lload_n 0, 1) := by decide +kernel
theorem dX4_toldFraction_22 : decode cX4_toldFraction 22 = .ok (.goto 4, 3) := by decide +kernel
theorem dX4_toldFraction_25 : decode cX4_toldFraction 25 = .ok (.lload_n 2, 1) := by decide +kernel
theorem dX4_toldFraction_26 : decode cX4_toldFraction 26 = .ok (.lload 5, 2) := by decide +kernel
theorem dX4_toldFraction_28 : decode cX4_toldFraction 28 = .ok (.ldiv, 1) := by decide +kernel
theorem dX4_toldFraction_29 : decode cX4_toldFraction 29 = .ok (.l2i, 1) := by decide +kernel
theorem dX4_toldFraction_30 : decode cX4_toldFraction 30 = .ok (.ireturn, 1) := by decide +kernel
theorem dX4_commonDivisor_0 : decode cX4_commonDivisor 0 = .ok (.lload_n 0, 1) := by decide +kernel
theorem dX4_commonDivisor_1 : decode cX4_commonDivisor 1 = .ok (.lstore 4, 2) := by decide +kernel
theorem dX4_commonDivisor_3 : decode cX4_commonDivisor 3 = .ok (.lload_n 2, 1) := by decide +kernel
theorem dX4_commonDivisor_4 : decode cX4_commonDivisor 4 = .ok (.lstore 6, 2) := by decide +kernel
theorem dX4_commonDivisor_6 : decode cX4_commonDivisor 6 = .ok (.iconst 0, 1) := by decide +kernel
theorem dX4_commonDivisor_7 : decode cX4_commonDivisor 7 = .ok (.istore 8, 2) := by decide +kernel
theorem dX4_commonDivisor_9 : decode cX4_commonDivisor 9 = .ok (.iload 8, 2) := by decide +kernel
theorem dX4_commonDivisor_11 : decode cX4_commonDivisor 11 = .ok (.bipush 100, 2) := by decide +kernel
theorem dX4_commonDivisor_13 : decode cX4_commonDivisor 13 = .ok (.if_icmp .ge 31, 3) := by decide +kernel
theorem dX4_commonDivisor_16 : decode cX4_commonDivisor 16 = .ok (.lload 6, 2) := by decide +kernel
theorem dX4_commonDivisor_18 : decode cX4_commonDivisor 18 = .ok (.lconst 0, 1) := by decide +kernel
theorem dX4_commonDivisor_19 : decode cX4_commonDivisor 19 = .ok (.lcmp, 1) := by decide +kernel
theorem dX4_commonDivisor_20 : decode cX4_commonDivisor 20 = .ok (.ifCond .eq 24, 3) := by decide +kernel
theorem dX4_commonDivisor_23 : decode cX4_commonDivisor 23 = .ok (.lload 4, 2) := by decide +kernel
theorem dX4_commonDivisor_25 : decode cX4_commonDivisor 25 = .ok (.lload 6, 2) := by decide +kernel
theorem dX4_commonDivisor_27 : decode cX4_commonDivisor 27 = .ok (.lrem, 1) := by decide +kernel
theorem dX4_commonDivisor_28 : decode cX4_commonDivisor 28 = .ok (.lstore 9, 2) := by decide +kernel
theorem dX4_commonDivisor_30 : decode cX4_commonDivisor 30 = .ok (.lload 6, 2) := by decide +kernel
theorem dX4_commonDivisor_32 : decode cX4_commonDivisor 32 = .ok (.lstore 4, 2) := by decide +kernel
theorem dX4_commonDivisor_34 : decode cX4_commonDivisor 34 = .ok (.lload 9, 2) := by decide +kernel
theorem dX4_commonDivisor_36 : decode cX4_commonDivisor 36 = .ok (.lstore 6, 2) := by decide +kernel
theorem dX4_commonDivisor_38 : decode cX4_commonDivisor 38 = .ok (.iinc 8 1, 3) := by decide +kernel
theorem dX4_commonDivisor_41 : decode cX4_commonDivisor 41 = .ok (.goto (-32), 3) := by decide +kernel
theorem dX4_commonDivisor_44 : decode cX4_commonDivisor 44 = .ok (.lload 4, 2) := by decide +kernel
theorem dX4_commonDivisor_46 : decode cX4_commonDivisor 46 = .ok (.lreturn, 1) := by decide +kernel
theorem dX4_withoutDoings_0 : decode cX4_withoutDoings 0 = .ok (.lload_n 0, 1) := by decide +kernel
theorem dX4_withoutDoings_1 : decode cX4_withoutDoings 1 = .ok (.lstore_n 3, 1) := by decide +kernel
theorem dX4_withoutDoings_2 : decode cX4_withoutDoings 2 = .ok (.iconst 0, 1) := by decide +kernel
theorem dX4_withoutDoings_3 : decode cX4_withoutDoings 3 = .ok (.istore 5, 2) := by decide +kernel
theorem dX4_withoutDoings_5 : decode cX4_withoutDoings 5 = .ok (.iload 5, 2) := by decide +kernel
theorem dX4_withoutDoings_7 : decode cX4_withoutDoings 7 = .ok (.iload_n 2, 1) := by decide +kernel
theorem dX4_withoutDoings_8 : decode cX4_withoutDoings 8 = .ok (.if_icmp .ge 15, 3) := by decide +kernel
theorem dX4_withoutDoings_11 : decode cX4_withoutDoings 11 = .ok (.lload_n 3, 1) := by decide +kernel
theorem dX4_withoutDoings_12 : decode cX4_withoutDoings 12 = .ok (.ldc2_w 168, 3) := by decide +kernel
theorem dX4_withoutDoings_15 : decode cX4_withoutDoings 15 = .ok (.ldiv, 1) := by decide +kernel
theorem dX4_withoutDoings_16 : decode cX4_withoutDoings 16 = .ok (.lstore_n 3, 1) := by decide +kernel
theorem dX4_withoutDoings_17 : decode cX4_withoutDoings 17 = .ok (.iinc 5 1, 3) := by decide +kernel
theorem dX4_withoutDoings_20 : decode cX4_withoutDoings 20 = .ok (.goto (-15), 3) := by decide +kernel
theorem dX4_withoutDoings_23 : decode cX4_withoutDoings 23 = .ok (.lload_n 3, 1) := by decide +kernel
theorem dX4_withoutDoings_24 : decode cX4_withoutDoings 24 = .ok (.lreturn, 1) := by decide +kernel
theorem dX4_isSo_0 : decode cX4_isSo 0 = .ok (.iload_n 1, 1) := by decide +kernel
theorem dX4_isSo_1 : decode cX4_isSo 1 = .ok (.bipush 100, 2) := by decide +kernel
theorem dX4_isSo_3 : decode cX4_isSo 3 = .ok (.idiv, 1) := by decide +kernel
theorem dX4_isSo_4 : decode cX4_isSo 4 = .ok (.bipush 10, 2) := by decide +kernel
theorem dX4_isSo_6 : decode cX4_isSo 6 = .ok (.irem, 1) := by decide +kernel
theorem dX4_isSo_7 : decode cX4_isSo 7 = .ok (.istore_n 2, 1) := by decide +kernel
theorem dX4_isSo_8 : decode cX4_isSo 8 = .ok (.iload_n 1, 1) := by decide +kernel
theorem dX4_isSo_9 : decode cX4_isSo 9 = .ok (.bipush 100, 2) := by decide +kernel
theorem dX4_isSo_11 : decode cX4_isSo 11 = .ok (.irem, 1) := by decide +kernel
theorem dX4_isSo_12 : decode cX4_isSo 12 = .ok (.istore_n 3, 1) := by decide +kernel
theorem dX4_isSo_13 : decode cX4_isSo 13 = .ok (.iload_n 1, 1) := by decide +kernel
theorem dX4_isSo_14 : decode cX4_isSo 14 = .ok (.sipush 1000, 3) := by decide +kernel
theorem dX4_isSo_17 : decode cX4_isSo 17 = .ok (.idiv, 1) := by decide +kernel
theorem dX4_isSo_18 : decode cX4_isSo 18 = .ok (.tableswitch 234 1 7 #[42, 60, 81, 111, 141, 173, 216], 42) := by decide +kernel
theorem dX4_isSo_60 : decode cX4_isSo 60 = .ok (.iload_n 3, 1) := by decide +kernel
theorem dX4_isSo_61 : decode cX4_isSo 61 = .ok (.ifCond .ne 15, 3) := by decide +kernel
theorem dX4_isSo_64 : decode cX4_isSo 64 = .ok (.aload_n 0, 1) := by decide +kernel
theorem dX4_isSo_65 : decode cX4_isSo 65 = .ok (.iload_n 2, 1) := by decide +kernel
theorem dX4_isSo_66 : decode cX4_isSo 66 = .ok (.invokevirtual 223, 3) := by decide +kernel
theorem dX4_isSo_69 : decode cX4_isSo 69 = .ok (.ifCond .eq 7, 3) := by decide +kernel
theorem dX4_isSo_72 : decode cX4_isSo 72 = .ok (.iconst 1, 1) := by decide +kernel
theorem dX4_isSo_73 : decode cX4_isSo 73 = .ok (.goto 4, 3) := by decide +kernel
theorem dX4_isSo_76 : decode cX4_isSo 76 = .ok (.iconst 0, 1) := by decide +kernel
theorem dX4_isSo_77 : decode cX4_isSo 77 = .ok (.ireturn, 1) := by decide +kernel
theorem dX4_isSo_78 : decode cX4_isSo 78 = .ok (.iload_n 3, 1) := by decide +kernel
theorem dX4_isSo_79 : decode cX4_isSo 79 = .ok (.ifCond .ne 18, 3) := by decide +kernel
theorem dX4_isSo_82 : decode cX4_isSo 82 = .ok (.aload_n 0, 1) := by decide +kernel
theorem dX4_isSo_83 : decode cX4_isSo 83 = .ok (.getfield 23, 3) := by decide +kernel
theorem dX4_isSo_86 : decode cX4_isSo 86 = .ok (.iload_n 2, 1) := by decide +kernel
theorem dX4_isSo_87 : decode cX4_isSo 87 = .ok (.invokevirtual 113, 3) := by decide +kernel
theorem dX4_isSo_90 : decode cX4_isSo 90 = .ok (.ifCond .eq 7, 3) := by decide +kernel
theorem dX4_isSo_93 : decode cX4_isSo 93 = .ok (.iconst 1, 1) := by decide +kernel
theorem dX4_isSo_94 : decode cX4_isSo 94 = .ok (.goto 4, 3) := by decide +kernel
theorem dX4_isSo_97 : decode cX4_isSo 97 = .ok (.iconst 0, 1) := by decide +kernel
theorem dX4_isSo_98 : decode cX4_isSo 98 = .ok (.ireturn, 1) := by decide +kernel
theorem dX4_isSo_99 : decode cX4_isSo 99 = .ok (.aload_n 0, 1) := by decide +kernel
theorem dX4_isSo_100 : decode cX4_isSo 100 = .ok (.getfield 23, 3) := by decide +kernel
theorem dX4_isSo_103 : decode cX4_isSo 103 = .ok (.iload_n 2, 1) := by decide +kernel
theorem dX4_isSo_104 : decode cX4_isSo 104 = .ok (.invokevirtual 67, 3) := by decide +kernel
theorem dX4_isSo_107 : decode cX4_isSo 107 = .ok (.ifCond .eq 20, 3) := by decide +kernel
theorem dX4_isSo_110 : decode cX4_isSo 110 = .ok (.aload_n 0, 1) := by decide +kernel
theorem dX4_isSo_111 : decode cX4_isSo 111 = .ok (.getfield 23, 3) := by decide +kernel
theorem dX4_isSo_114 : decode cX4_isSo 114 = .ok (.iload_n 2, 1) := by decide +kernel
theorem dX4_isSo_115 : decode cX4_isSo 115 = .ok (.iconst 3, 1) := by decide +kernel
theorem dX4_isSo_116 : decode cX4_isSo 116 = .ok (.invokevirtual 70, 3) := by decide +kernel
theorem dX4_isSo_119 : decode cX4_isSo 119 = .ok (.iload_n 3, 1) := by decide +kernel
theorem dX4_isSo_120 : decode cX4_isSo 120 = .ok (.if_icmp .ne 7, 3) := by decide +kernel
theorem dX4_isSo_123 : decode cX4_isSo 123 = .ok (.iconst 1, 1) := by decide +kernel
theorem dX4_isSo_124 : decode cX4_isSo 124 = .ok (.goto 4, 3) := by decide +kernel
theorem dX4_isSo_127 : decode cX4_isSo 127 = .ok (.iconst 0, 1) := by decide +kernel
theorem dX4_isSo_128 : decode cX4_isSo 128 = .ok (.ireturn, 1) := by decide +kernel
theorem dX4_isSo_129 : decode cX4_isSo 129 = .ok (.aload_n 0, 1) := by decide +kernel
theorem dX4_isSo_130 : decode cX4_isSo 130 = .ok (.getfield 23, 3) := by decide +kernel
theorem dX4_isSo_133 : decode cX4_isSo 133 = .ok (.iload_n 2, 1) := by decide +kernel
theorem dX4_isSo_134 : decode cX4_isSo 134 = .ok (.invokevirtual 67, 3) := by decide +kernel
theorem dX4_isSo_137 : decode cX4_isSo 137 = .ok (.ifCond .eq 20, 3) := by decide +kernel
theorem dX4_isSo_140 : decode cX4_isSo 140 = .ok (.aload_n 0, 1) := by decide +kernel
theorem dX4_isSo_141 : decode cX4_isSo 141 = .ok (.getfield 23, 3) := by decide +kernel
theorem dX4_isSo_144 : decode cX4_isSo 144 = .ok (.iload_n 2, 1) := by decide +kernel
theorem dX4_isSo_145 : decode cX4_isSo 145 = .ok (.iconst 5, 1) := by decide +kernel
theorem dX4_isSo_146 : decode cX4_isSo 146 = .ok (.invokevirtual 70, 3) := by decide +kernel
theorem dX4_isSo_149 : decode cX4_isSo 149 = .ok (.iload_n 3, 1) := by decide +kernel
theorem dX4_isSo_150 : decode cX4_isSo 150 = .ok (.if_icmp .ne 7, 3) := by decide +kernel
theorem dX4_isSo_153 : decode cX4_isSo 153 = .ok (.iconst 1, 1) := by decide +kernel
theorem dX4_isSo_154 : decode cX4_isSo 154 = .ok (.goto 4, 3) := by decide +kernel
theorem dX4_isSo_157 : decode cX4_isSo 157 = .ok (.iconst 0, 1) := by decide +kernel
theorem dX4_isSo_158 : decode cX4_isSo 158 = .ok (.ireturn, 1) := by decide +kernel
theorem dX4_isSo_159 : decode cX4_isSo 159 = .ok (.iload_n 1, 1) := by decide +kernel
theorem dX4_isSo_160 : decode cX4_isSo 160 = .ok (.sipush 1000, 3) := by decide +kernel
theorem dX4_isSo_163 : decode cX4_isSo 163 = .ok (.irem, 1) := by decide +kernel
theorem dX4_isSo_164 : decode cX4_isSo 164 = .ok (.invokestatic 93, 3) := by decide +kernel
theorem dX4_isSo_167 : decode cX4_isSo 167 = .ok (.ifCond .eq 22, 3) := by decide +kernel
theorem dX4_isSo_170 : decode cX4_isSo 170 = .ok (.aload_n 0, 1) := by decide +kernel
theorem dX4_isSo_171 : decode cX4_isSo 171 = .ok (.getfield 23, 3) := by decide +kernel
theorem dX4_isSo_174 : decode cX4_isSo 174 = .ok (.iload_n 1, 1) := by decide +kernel
theorem dX4_isSo_175 : decode cX4_isSo 175 = .ok (.sipush 1000, 3) := by decide +kernel
theorem dX4_isSo_178 : decode cX4_isSo 178 = .ok (.irem, 1) := by decide +kernel
theorem dX4_isSo_179 : decode cX4_isSo 179 = .ok (.invokevirtual 185, 3) := by decide +kernel
theorem dX4_isSo_182 : decode cX4_isSo 182 = .ok (.ifCond .le 7, 3) := by decide +kernel
theorem dX4_isSo_185 : decode cX4_isSo 185 = .ok (.iconst 1, 1) := by decide +kernel
theorem dX4_isSo_186 : decode cX4_isSo 186 = .ok (.goto 4, 3) := by decide +kernel
theorem dX4_isSo_189 : decode cX4_isSo 189 = .ok (.iconst 0, 1) := by decide +kernel
theorem dX4_isSo_190 : decode cX4_isSo 190 = .ok (.ireturn, 1) := by decide +kernel
theorem dX4_isSo_191 : decode cX4_isSo 191 = .ok (.iload_n 3, 1) := by decide +kernel
theorem dX4_isSo_192 : decode cX4_isSo 192 = .ok (.iconst 1, 1) := by decide +kernel
theorem dX4_isSo_193 : decode cX4_isSo 193 = .ok (.if_icmp .gt 39, 3) := by decide +kernel
theorem dX4_isSo_196 : decode cX4_isSo 196 = .ok (.aload_n 0, 1) := by decide +kernel
theorem dX4_isSo_197 : decode cX4_isSo 197 = .ok (.getfield 23, 3) := by decide +kernel
theorem dX4_isSo_200 : decode cX4_isSo 200 = .ok (.iload_n 2, 1) := by decide +kernel
theorem dX4_isSo_201 : decode cX4_isSo 201 = .ok (.invokevirtual 67, 3) := by decide +kernel
theorem dX4_isSo_204 : decode cX4_isSo 204 = .ok (.ifCond .eq 28, 3) := by decide +kernel
theorem dX4_isSo_207 : decode cX4_isSo 207 = .ok (.aload_n 0, 1) := by decide +kernel
theorem dX4_isSo_208 : decode cX4_isSo 208 = .ok (.getfield 23, 3) := by decide +kernel
theorem dX4_isSo_211 : decode cX4_isSo 211 = .ok (.iload_n 2, 1) := by decide +kernel
theorem dX4_isSo_212 : decode cX4_isSo 212 = .ok (.invokevirtual 74, 3) := by decide +kernel
theorem dX4_isSo_215 : decode cX4_isSo 215 = .ok (.iload_n 3, 1) := by decide +kernel
theorem dX4_isSo_216 : decode cX4_isSo 216 = .ok (.iconst 1, 1) := by decide +kernel
theorem dX4_isSo_217 : decode cX4_isSo 217 = .ok (.if_icmp .ne 7, 3) := by decide +kernel
theorem dX4_isSo_220 : decode cX4_isSo 220 = .ok (.iconst 1, 1) := by decide +kernel
theorem dX4_isSo_221 : decode cX4_isSo 221 = .ok (.goto 4, 3) := by decide +kernel
theorem dX4_isSo_224 : decode cX4_isSo 224 = .ok (.iconst 0, 1) := by decide +kernel
theorem dX4_isSo_225 : decode cX4_isSo 225 = .ok (.if_icmp .ne 7, 3) := by decide +kernel
theorem dX4_isSo_228 : decode cX4_isSo 228 = .ok (.iconst 1, 1) := by decide +kernel
theorem dX4_isSo_229 : decode cX4_isSo 229 = .ok (.goto 4, 3) := by decide +kernel
theorem dX4_isSo_232 : decode cX4_isSo 232 = .ok (.iconst 0, 1) := by decide +kernel
theorem dX4_isSo_233 : decode cX4_isSo 233 = .ok (.ireturn, 1) := by decide +kernel
theorem dX4_isSo_234 : decode cX4_isSo 234 = .ok (.iload_n 3, 1) := by decide +kernel
theorem dX4_isSo_235 : decode cX4_isSo 235 = .ok (.ifCond .ne 15, 3) := by decide +kernel
theorem dX4_isSo_238 : decode cX4_isSo 238 = .ok (.aload_n 0, 1) := by decide +kernel
theorem dX4_isSo_239 : decode cX4_isSo 239 = .ok (.iload_n 2, 1) := by decide +kernel
theorem dX4_isSo_240 : decode cX4_isSo 240 = .ok (.invokevirtual 226, 3) := by decide +kernel
theorem dX4_isSo_243 : decode cX4_isSo 243 = .ok (.ifCond .eq 7, 3) := by decide +kernel
theorem dX4_isSo_246 : decode cX4_isSo 246 = .ok (.iconst 1, 1) := by decide +kernel
theorem dX4_isSo_247 : decode cX4_isSo 247 = .ok (.goto 4, 3) := by decide +kernel
theorem dX4_isSo_250 : decode cX4_isSo 250 = .ok (.iconst 0, 1) := by decide +kernel
theorem dX4_isSo_251 : decode cX4_isSo 251 = .ok (.ireturn, 1) := by decide +kernel
theorem dX4_isSo_252 : decode cX4_isSo 252 = .ok (.iconst 0, 1) := by decide +kernel
theorem dX4_isSo_253 : decode cX4_isSo 253 = .ok (.ireturn, 1) := by decide +kernel
theorem dX4_sendInMind_0 : decode cX4_sendInMind 0 = .ok (.aload_n 0, 1) := by decide +kernel
theorem dX4_sendInMind_1 : decode cX4_sendInMind 1 = .ok (.getfield 23, 3) := by decide +kernel
theorem dX4_sendInMind_4 : decode cX4_sendInMind 4 = .ok (.iload_n 1, 1) := by decide +kernel
theorem dX4_sendInMind_5 : decode cX4_sendInMind 5 = .ok (.invokevirtual 104, 3) := by decide +kernel
theorem dX4_sendInMind_8 : decode cX4_sendInMind 8 = .ok (.istore_n 2, 1) := by decide +kernel
theorem dX4_sendInMind_9 : decode cX4_sendInMind 9 = .ok (.iload_n 2, 1) := by decide +kernel
theorem dX4_sendInMind_10 : decode cX4_sendInMind 10 = .ok (.ifCond .eq 12, 3) := by decide +kernel
theorem dX4_sendInMind_13 : decode cX4_sendInMind 13 = .ok (.aload_n 0, 1) := by decide +kernel
theorem dX4_sendInMind_14 : decode cX4_sendInMind 14 = .ok (.getfield 23, 3) := by decide +kernel
theorem dX4_sendInMind_17 : decode cX4_sendInMind 17 = .ok (.iload_n 1, 1) := by decide +kernel
theorem dX4_sendInMind_18 : decode cX4_sendInMind 18 = .ok (.invokevirtual 110, 3) := by decide +kernel
theorem dX4_sendInMind_21 : decode cX4_sendInMind 21 = .ok (.pop, 1) := by decide +kernel
theorem dX4_sendInMind_22 : decode cX4_sendInMind 22 = .ok (.iload_n 2, 1) := by decide +kernel
theorem dX4_sendInMind_23 : decode cX4_sendInMind 23 = .ok (.ireturn, 1) := by decide +kernel
theorem dX4_widenInMind_0 : decode cX4_widenInMind 0 = .ok (.iload_n 1, 1) := by decide +kernel
theorem dX4_widenInMind_1 : decode cX4_widenInMind 1 = .ok (.iconst 1, 1) := by decide +kernel
theorem dX4_widenInMind_2 : decode cX4_widenInMind 2 = .ok (.bipush 6, 2) := by decide +kernel
theorem dX4_widenInMind_4 : decode cX4_widenInMind 4 = .ok (.invokestatic 96, 3) := by decide +kernel
theorem dX4_widenInMind_7 : decode cX4_widenInMind 7 = .ok (.istore_n 2, 1) := by decide +kernel
theorem dX4_widenInMind_8 : decode cX4_widenInMind 8 = .ok (.iload_n 2, 1) := by decide +kernel
theorem dX4_widenInMind_9 : decode cX4_widenInMind 9 = .ok (.ifCond .eq 11, 3) := by decide +kernel
theorem dX4_widenInMind_12 : decode cX4_widenInMind 12 = .ok (.aload_n 0, 1) := by decide +kernel
theorem dX4_widenInMind_13 : decode cX4_widenInMind 13 = .ok (.getfield 23, 3) := by decide +kernel
theorem dX4_widenInMind_16 : decode cX4_widenInMind 16 = .ok (.iload_n 1, 1) := by decide +kernel
theorem dX4_widenInMind_17 : decode cX4_widenInMind 17 = .ok (.invokevirtual 138, 3) := by decide +kernel
theorem dX4_widenInMind_20 : decode cX4_widenInMind 20 = .ok (.iload_n 2, 1) := by decide +kernel
theorem dX4_widenInMind_21 : decode cX4_widenInMind 21 = .ok (.ireturn, 1) := by decide +kernel
theorem dX4_weightInStep_0 : decode cX4_weightInStep 0 = .ok (.aload_n 0, 1) := by decide +kernel
theorem dX4_weightInStep_1 : decode cX4_weightInStep 1 = .ok (.getfield 23, 3) := by decide +kernel
theorem dX4_weightInStep_4 : decode cX4_weightInStep 4 = .ok (.aload_n 0, 1) := by decide +kernel
theorem dX4_weightInStep_5 : decode cX4_weightInStep 5 = .ok (.getfield 19, 3) := by decide +kernel
theorem dX4_weightInStep_8 : decode cX4_weightInStep 8 = .ok (.invokevirtual 56, 3) := by decide +kernel
theorem dX4_weightInStep_11 : decode cX4_weightInStep 11 = .ok (.lconst 1, 1) := by decide +kernel
theorem dX4_weightInStep_12 : decode cX4_weightInStep 12 = .ok (.lstore 5, 2) := by decide +kernel
theorem dX4_weightInStep_14 : decode cX4_weightInStep 14 = .ok (.iconst 0, 1) := by decide +kernel
theorem dX4_weightInStep_15 : decode cX4_weightInStep 15 = .ok (.istore 7, 2) := by decide +kernel
theorem dX4_weightInStep_17 : decode cX4_weightInStep 17 = .ok (.iload 7, 2) := by decide +kernel
theorem dX4_weightInStep_19 : decode cX4_weightInStep 19 = .ok (.iload_n 2, 1) := by decide +kernel
theorem dX4_weightInStep_20 : decode cX4_weightInStep 20 = .ok (.if_icmp .ge 58, 3) := by decide +kernel
theorem dX4_weightInStep_23 : decode cX4_weightInStep 23 = .ok (.iload 4, 2) := by decide +kernel
theorem dX4_weightInStep_25 : decode cX4_weightInStep 25 = .ok (.iload 7, 2) := by decide +kernel
theorem dX4_weightInStep_27 : decode cX4_weightInStep 27 = .ok (.ishr, 1) := by decide +kernel
theorem dX4_weightInStep_28 : decode cX4_weightInStep 28 = .ok (.iconst 1, 1) := by decide +kernel
theorem dX4_weightInStep_29 : decode cX4_weightInStep 29 = .ok (.iand, 1) := by decide +kernel
theorem dX4_weightInStep_30 : decode cX4_weightInStep 30 = .ok (.iconst 1, 1) := by decide +kernel
theorem dX4_weightInStep_31 : decode cX4_weightInStep 31 = .ok (.if_icmp .ne 22, 3) := by decide +kernel
theorem dX4_weightInStep_34 : decode cX4_weightInStep 34 = .ok (.aload_n 0, 1) := by decide +kernel
theorem dX4_weightInStep_35 : decode cX4_weightInStep 35 = .ok (.getfield 23, 3) := by decide +kernel
theorem dX4_weightInStep_38 : decode cX4_weightInStep 38 = .ok (.iload_n 1, 1) := by decide +kernel
theorem dX4_weightInStep_39 : decode cX4_weightInStep 39 = .ok (.invokevirtual 113, 3) := by decide +kernel
theorem dX4_weightInStep_42 : decode cX4_weightInStep 42 = .ok (.pop, 1) := by decide +kernel
theorem dX4_weightInStep_43 : decode cX4_weightInStep 43 = .ok (.lload 5, 2) := by decide +kernel
theorem dX4_weightInStep_45 : decode cX4_weightInStep 45 = .ok (.iload_n 3, 1) := by decide +kernel
theorem dX4_weightInStep_46 : decode cX4_weightInStep 46 = .ok (.i2l, 1) := by decide +kernel
theorem dX4_weightInStep_47 : decode cX4_weightInStep 47 = .ok (.lmul, 1) := by decide +kernel
theorem dX4_weightInStep_48 : decode cX4_weightInStep 48 = .ok (.lstore 5, 2) := by decide +kernel
theorem dX4_weightInStep_50 : decode cX4_weightInStep 50 = .ok (.goto 22, 3) := by decide +kernel
theorem dX4_weightInStep_53 : decode cX4_weightInStep 53 = .ok (.aload_n 0, 1) := by decide +kernel
theorem dX4_weightInStep_54 : decode cX4_weightInStep 54 = .ok (.getfield 23, 3) := by decide +kernel
theorem dX4_weightInStep_57 : decode cX4_weightInStep 57 = .ok (.iload_n 1, 1) := by decide +kernel
theorem dX4_weightInStep_58 : decode cX4_weightInStep 58 = .ok (.invokevirtual 110, 3) := by decide +kernel
theorem dX4_weightInStep_61 : decode cX4_weightInStep 61 = .ok (.pop, 1) := by decide +kernel
theorem dX4_weightInStep_62 : decode cX4_weightInStep 62 = .ok (.lload 5, 2) := by decide +kernel
theorem dX4_weightInStep_64 : decode cX4_weightInStep 64 = .ok (.bipush 10, 2) := by decide +kernel
theorem dX4_weightInStep_66 : decode cX4_weightInStep 66 = .ok (.iload_n 3, 1) := by decide +kernel
theorem dX4_weightInStep_67 : decode cX4_weightInStep 67 = .ok (.isub, 1) := by decide +kernel
theorem dX4_weightInStep_68 : decode cX4_weightInStep 68 = .ok (.i2l, 1) := by decide +kernel
theorem dX4_weightInStep_69 : decode cX4_weightInStep 69 = .ok (.lmul, 1) := by decide +kernel
theorem dX4_weightInStep_70 : decode cX4_weightInStep 70 = .ok (.lstore 5, 2) := by decide +kernel
theorem dX4_weightInStep_72 : decode cX4_weightInStep 72 = .ok (.iinc 7 1, 3) := by decide +kernel
theorem dX4_weightInStep_75 : decode cX4_weightInStep 75 = .ok (.goto (-58), 3) := by decide +kernel
theorem dX4_weightInStep_78 : decode cX4_weightInStep 78 = .ok (.aload_n 0, 1) := by decide +kernel
theorem dX4_weightInStep_79 : decode cX4_weightInStep 79 = .ok (.getfield 23, 3) := by decide +kernel
theorem dX4_weightInStep_82 : decode cX4_weightInStep 82 = .ok (.iload_n 1, 1) := by decide +kernel
theorem dX4_weightInStep_83 : decode cX4_weightInStep 83 = .ok (.invokevirtual 74, 3) := by decide +kernel
theorem dX4_weightInStep_86 : decode cX4_weightInStep 86 = .ok (.ifCond .eq 8, 3) := by decide +kernel
theorem dX4_weightInStep_89 : decode cX4_weightInStep 89 = .ok (.lload 5, 2) := by decide +kernel
theorem dX4_weightInStep_91 : decode cX4_weightInStep 91 = .ok (.goto 4, 3) := by decide +kernel
theorem dX4_weightInStep_94 : decode cX4_weightInStep 94 = .ok (.lconst 0, 1) := by decide +kernel
theorem dX4_weightInStep_95 : decode cX4_weightInStep 95 = .ok (.lreturn, 1) := by decide +kernel
theorem dX4_isTakenOnDay_0 : decode cX4_isTakenOnDay 0 = .ok (.iload_n 1, 1) := by decide +kernel
theorem dX4_isTakenOnDay_1 : decode cX4_isTakenOnDay 1 = .ok (.iconst 4, 1) := by decide +kernel
theorem dX4_isTakenOnDay_2 : decode cX4_isTakenOnDay 2 = .ok (.irem, 1) := by decide +kernel
theorem dX4_isTakenOnDay_3 : decode cX4_isTakenOnDay 3 = .ok (.istore_n 2, 1) := by decide +kernel
theorem dX4_isTakenOnDay_4 : decode cX4_isTakenOnDay 4 = .ok (.aload_n 0, 1) := by decide +kernel
theorem dX4_isTakenOnDay_5 : decode cX4_isTakenOnDay 5 = .ok (.getfield 23, 3) := by decide +kernel
theorem dX4_isTakenOnDay_8 : decode cX4_isTakenOnDay 8 = .ok (.iload_n 2, 1) := by decide +kernel
theorem dX4_isTakenOnDay_9 : decode cX4_isTakenOnDay 9 = .ok (.invokevirtual 104, 3) := by decide +kernel
theorem dX4_isTakenOnDay_12 : decode cX4_isTakenOnDay 12 = .ok (.ifCond .ne 5, 3) := by decide +kernel
theorem dX4_isTakenOnDay_15 : decode cX4_isTakenOnDay 15 = .ok (.iconst 0, 1) := by decide +kernel
theorem dX4_isTakenOnDay_16 : decode cX4_isTakenOnDay 16 = .ok (.ireturn, 1) := by decide +kernel
theorem dX4_isTakenOnDay_17 : decode cX4_isTakenOnDay 17 = .ok (.iload_n 1, 1) := by decide +kernel
theorem dX4_isTakenOnDay_18 : decode cX4_isTakenOnDay 18 = .ok (.iconst 4, 1) := by decide +kernel
theorem dX4_isTakenOnDay_19 : decode cX4_isTakenOnDay 19 = .ok (.idiv, 1) := by decide +kernel
theorem dX4_isTakenOnDay_20 : decode cX4_isTakenOnDay 20 = .ok (.iconst 4, 1) := by decide +kernel
theorem dX4_isTakenOnDay_21 : decode cX4_isTakenOnDay 21 = .ok (.irem, 1) := by decide +kernel
theorem dX4_isTakenOnDay_22 : decode cX4_isTakenOnDay 22 = .ok (.ifCond .ne 14, 3) := by decide +kernel
theorem dX4_isTakenOnDay_25 : decode cX4_isTakenOnDay 25 = .ok (.aload_n 0, 1) := by decide +kernel
theorem dX4_isTakenOnDay_26 : decode cX4_isTakenOnDay 26 = .ok (.getfield 23, 3) := by decide +kernel
theorem dX4_isTakenOnDay_29 : decode cX4_isTakenOnDay 29 = .ok (.iload_n 2, 1) := by decide +kernel
theorem dX4_isTakenOnDay_30 : decode cX4_isTakenOnDay 30 = .ok (.invokevirtual 113, 3) := by decide +kernel
theorem dX4_isTakenOnDay_33 : decode cX4_isTakenOnDay 33 = .ok (.pop, 1) := by decide +kernel
theorem dX4_isTakenOnDay_34 : decode cX4_isTakenOnDay 34 = .ok (.iconst 0, 1) := by decide +kernel
theorem dX4_isTakenOnDay_35 : decode cX4_isTakenOnDay 35 = .ok (.ireturn, 1) := by decide +kernel
theorem dX4_isTakenOnDay_36 : decode cX4_isTakenOnDay 36 = .ok (.aload_n 0, 1) := by decide +kernel
theorem dX4_isTakenOnDay_37 : decode cX4_isTakenOnDay 37 = .ok (.getfield 23, 3) := by decide +kernel
theorem dX4_isTakenOnDay_40 : decode cX4_isTakenOnDay 40 = .ok (.iload_n 2, 1) := by decide +kernel
theorem dX4_isTakenOnDay_41 : decode cX4_isTakenOnDay 41 = .ok (.invokevirtual 110, 3) := by decide +kernel
theorem dX4_isTakenOnDay_44 : decode cX4_isTakenOnDay 44 = .ok (.ifCond .le 7, 3) := by decide +kernel
theorem dX4_isTakenOnDay_47 : decode cX4_isTakenOnDay 47 = .ok (.iconst 1, 1) := by decide +kernel
theorem dX4_isTakenOnDay_48 : decode cX4_isTakenOnDay 48 = .ok (.goto 4, 3) := by decide +kernel
theorem dX4_isTakenOnDay_51 : decode cX4_isTakenOnDay 51 = .ok (.iconst 0, 1) := by decide +kernel
theorem dX4_isTakenOnDay_52 : decode cX4_isTakenOnDay 52 = .ok (.ireturn, 1) := by decide +kernel
