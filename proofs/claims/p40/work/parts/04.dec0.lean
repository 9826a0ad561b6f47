theorem dX1_check_0 : decode cX1_check 0 = .ok (.iconst 0, 1) := by decide +kernel
theorem dX1_check_1 : decode cX1_check 1 = .ok (.istore_n 2, 1) := by decide +kernel
theorem dX1_check_2 : decode cX1_check 2 = .ok (.iconst 0, 1) := by decide +kernel
theorem dX1_check_3 : decode cX1_check 3 = .ok (.istore_n 3, 1) := by decide +kernel
theorem dX1_check_4 : decode cX1_check 4 = .ok (.iload_n 3, 1) := by decide +kernel
theorem dX1_check_5 : decode cX1_check 5 = .ok (.aload_n 0, 1) := by decide +kernel
theorem dX1_check_6 : decode cX1_check 6 = .ok (.getfield 9, 3) := by decide +kernel
theorem dX1_check_9 : decode cX1_check 9 = .ok (.if_icmp .ge 53, 3) := by decide +kernel
theorem dX1_check_12 : decode cX1_check 12 = .ok (.aload_n 0, 1) := by decide +kernel
theorem dX1_check_13 : decode cX1_check 13 = .ok (.getfield 15, 3) := by decide +kernel
theorem dX1_check_16 : decode cX1_check 16 = .ok (.ifCond .ne 46, 3) := by decide +kernel
theorem dX1_check_19 : decode cX1_check 19 = .ok (.aload_n 0, 1) := by decide +kernel
theorem dX1_check_20 : decode cX1_check 20 = .ok (.iload_n 3, 1) := by decide +kernel
theorem dX1_check_21 : decode cX1_check 21 = .ok (.invokevirtual 18, 3) := by decide +kernel
theorem dX1_check_24 : decode cX1_check 24 = .ok (.invokestatic 22, 3) := by decide +kernel
theorem dX1_check_27 : decode cX1_check 27 = .ok (.ifCond .eq 23, 3) := by decide +kernel
theorem dX1_check_30 : decode cX1_check 30 = .ok (.iinc 2 1, 3) := by decide +kernel
theorem dX1_check_33 : decode cX1_check 33 = .ok (.aload_n 0, 1) := by decide +kernel
theorem dX1_check_34 : decode cX1_check 34 = .ok (.iload_n 2, 1) := by decide +kernel
theorem dX1_check_35 : decode cX1_check 35 = .ok (.bipush 16, 2) := by decide +kernel
theorem dX1_check_37 : decode cX1_check 37 = .ok (.if_icmp .gt 7, 3) := by decide +kernel
theorem dX1_check_40 : decode cX1_check 40 = .ok (.iconst 1, 1) := by decide +kernel
theorem dX1_check_41 : decode cX1_check 41 = .ok (.goto 4, 3) := by decide +kernel
theorem dX1_check_44 : decode cX1_check 44 = .ok (.iconst 0, 1) := by decide +kernel
theorem dX1_check_45 : decode cX1_check 45 = .ok (.iconst 4, 1) := by decide +kernel
theorem dX1_check_46 : decode cX1_check 46 = .ok (.iload_n 3, 1) := by decide +kernel
theorem dX1_check_47 : decode cX1_check 47 = .ok (.invokevirtual 28, 3) := by decide +kernel
theorem dX1_check_50 : decode cX1_check 50 = .ok (.aload_n 0, 1) := by decide +kernel
theorem dX1_check_51 : decode cX1_check 51 = .ok (.iload_n 3, 1) := by decide +kernel
theorem dX1_check_52 : decode cX1_check 52 = .ok (.aload_n 1, 1) := by decide +kernel
theorem dX1_check_53 : decode cX1_check 53 = .ok (.invokestatic 32, 3) := by decide +kernel
theorem dX1_check_56 : decode cX1_check 56 = .ok (.iinc 3 1, 3) := by decide +kernel
theorem dX1_check_59 : decode cX1_check 59 = .ok (.goto (-55), 3) := by decide +kernel
theorem dX1_check_62 : decode cX1_check 62 = .ok (.return_, 1) := by decide +kernel
theorem dX1_beginsOrder_0 : decode cX1_beginsOrder 0 = .ok (.aload_n 0, 1) := by decide +kernel
theorem dX1_beginsOrder_1 : decode cX1_beginsOrder 1 = .ok (.getstatic 36, 3) := by decide +kernel
theorem dX1_beginsOrder_4 : decode cX1_beginsOrder 4 = .ok (.if_acmp .eq 24, 3) := by decide +kernel
theorem dX1_beginsOrder_7 : decode cX1_beginsOrder 7 = .ok (.aload_n 0, 1) := by decide +kernel
theorem dX1_beginsOrder_8 : decode cX1_beginsOrder 8 = .ok (.getstatic 42, 3) := by decide +kernel
theorem dX1_beginsOrder_11 : decode cX1_beginsOrder 11 = .ok (.if_acmp .eq 17, 3) := by decide +kernel
theorem dX1_beginsOrder_14 : decode cX1_beginsOrder 14 = .ok (.aload_n 0, 1) := by decide +kernel
theorem dX1_beginsOrder_15 : decode cX1_beginsOrder 15 = .ok (.getstatic 45, 3) := by decide +kernel
theorem dX1_beginsOrder_18 : decode cX1_beginsOrder 18 = .ok (.if_acmp .eq 10, 3) := by decide +kernel
theorem dX1_beginsOrder_21 : decode cX1_beginsOrder 21 = .ok (.aload_n 0, 1) := by decide +kernel
theorem dX1_beginsOrder_22 : decode cX1_beginsOrder 22 = .ok (.getstatic 48, 3) := by decide +kernel
theorem dX1_beginsOrder_25 : decode cX1_beginsOrder 25 = .ok (.if_acmp .ne 7, 3) := by decide +kernel
theorem dX1_beginsOrder_28 : decode cX1_beginsOrder 28 = .ok (.iconst 1, 1) := by decide +kernel
theorem dX1_beginsOrder_29 : decode cX1_beginsOrder 29 = .ok (.goto 4, 3) := by decide +kernel
theorem dX1_beginsOrder_32 : decode cX1_beginsOrder 32 = .ok (.iconst 0, 1) := by decide +kernel
theorem dX1_beginsOrder_33 : decode cX1_beginsOrder 33 = .ok (.ireturn, 1) := by decide +kernel
theorem dX1_checkBehind_0 : decode cX1_checkBehind 0 = .ok (.getstatic 51, 3) := by decide +kernel
theorem dX1_checkBehind_3 : decode cX1_checkBehind 3 = .ok (.aload_n 0, 1) := by decide +kernel
theorem dX1_checkBehind_4 : decode cX1_checkBehind 4 = .ok (.iload_n 1, 1) := by decide +kernel
theorem dX1_checkBehind_5 : decode cX1_checkBehind 5 = .ok (.invokevirtual 18, 3) := by decide +kernel
theorem dX1_checkBehind_8 : decode cX1_checkBehind 8 = .ok (.invokevirtual 57, 3) := by decide +kernel
theorem dX1_checkBehind_11 : decode cX1_checkBehind 11 = .ok (.iaload, 1) := by decide +kernel
theorem dX1_checkBehind_12 : decode cX1_checkBehind 12 = .ok (.tableswitch 176 3 23 #[128, 152, 152, 176, 176, 176, 176, 176, 176, 176, 176, 176, 176, 176, 176, 176, 100, 114, 128, 128, 152], 100) := by decide +kernel
theorem dX1_checkBehind_112 : decode cX1_checkBehind 112 = .ok (.aload_n 0, 1) := by decide +kernel
theorem dX1_checkBehind_113 : decode cX1_checkBehind 113 = .ok (.iload_n 1, 1) := by decide +kernel
theorem dX1_checkBehind_114 : decode cX1_checkBehind 114 = .ok (.iconst 1, 1) := by decide +kernel
theorem dX1_checkBehind_115 : decode cX1_checkBehind 115 = .ok (.iadd, 1) := by decide +kernel
theorem dX1_checkBehind_116 : decode cX1_checkBehind 116 = .ok (.aload_n 2, 1) := by decide +kernel
theorem dX1_checkBehind_117 : decode cX1_checkBehind 117 = .ok (.getfield 61, 3) := by decide +kernel
theorem dX1_checkBehind_120 : decode cX1_checkBehind 120 = .ok (.invokestatic 67, 3) := by decide +kernel
theorem dX1_checkBehind_123 : decode cX1_checkBehind 123 = .ok (.goto 65, 3) := by decide +kernel
theorem dX1_checkBehind_126 : decode cX1_checkBehind 126 = .ok (.aload_n 0, 1) := by decide +kernel
theorem dX1_checkBehind_127 : decode cX1_checkBehind 127 = .ok (.iload_n 1, 1) := by decide +kernel
theorem dX1_checkBehind_128 : decode cX1_checkBehind 128 = .ok (.iconst 1, 1) := by decide +kernel
theorem dX1_checkBehind_129 : decode cX1_checkBehind 129 = .ok (.iadd, 1) := by decide +kernel
theorem dX1_checkBehind_130 : decode cX1_checkBehind 130 = .ok (.aload_n 2, 1) := by decide +kernel
theorem dX1_checkBehind_131 : decode cX1_checkBehind 131 = .ok (.getfield 71, 3) := by decide +kernel
theorem dX1_checkBehind_134 : decode cX1_checkBehind 134 = .ok (.invokestatic 75, 3) := by decide +kernel
theorem dX1_checkBehind_137 : decode cX1_checkBehind 137 = .ok (.goto 51, 3) := by decide +kernel
theorem dX1_checkBehind_140 : decode cX1_checkBehind 140 = .ok (.aload_n 0, 1) := by decide +kernel
theorem dX1_checkBehind_141 : decode cX1_checkBehind 141 = .ok (.iload_n 1, 1) := by decide +kernel
theorem dX1_checkBehind_142 : decode cX1_checkBehind 142 = .ok (.iconst 1, 1) := by decide +kernel
theorem dX1_checkBehind_143 : decode cX1_checkBehind 143 = .ok (.iadd, 1) := by decide +kernel
theorem dX1_checkBehind_144 : decode cX1_checkBehind 144 = .ok (.aload_n 2, 1) := by decide +kernel
theorem dX1_checkBehind_145 : decode cX1_checkBehind 145 = .ok (.getfield 61, 3) := by decide +kernel
theorem dX1_checkBehind_148 : decode cX1_checkBehind 148 = .ok (.aload_n 0, 1) := by decide +kernel
theorem dX1_checkBehind_149 : decode cX1_checkBehind 149 = .ok (.iload_n 1, 1) := by decide +kernel
theorem dX1_checkBehind_150 : decode cX1_checkBehind 150 = .ok (.iconst 1, 1) := by decide +kernel
theorem dX1_checkBehind_151 : decode cX1_checkBehind 151 = .ok (.iadd, 1) := by decide +kernel
theorem dX1_checkBehind_152 : decode cX1_checkBehind 152 = .ok (.invokevirtual 79, 3) := by decide +kernel
theorem dX1_checkBehind_155 : decode cX1_checkBehind 155 = .ok (.invokevirtual 83, 3) := by decide +kernel
theorem dX1_checkBehind_158 : decode cX1_checkBehind 158 = .ok (.invokestatic 89, 3) := by decide +kernel
theorem dX1_checkBehind_161 : decode cX1_checkBehind 161 = .ok (.goto 27, 3) := by decide +kernel
theorem dX1_checkBehind_164 : decode cX1_checkBehind 164 = .ok (.aload_n 0, 1) := by decide +kernel
theorem dX1_checkBehind_165 : decode cX1_checkBehind 165 = .ok (.iload_n 1, 1) := by decide +kernel
theorem dX1_checkBehind_166 : decode cX1_checkBehind 166 = .ok (.iconst 1, 1) := by decide +kernel
theorem dX1_checkBehind_167 : decode cX1_checkBehind 167 = .ok (.iadd, 1) := by decide +kernel
theorem dX1_checkBehind_168 : decode cX1_checkBehind 168 = .ok (.aload_n 2, 1) := by decide +kernel
theorem dX1_checkBehind_169 : decode cX1_checkBehind 169 = .ok (.getfield 71, 3) := by decide +kernel
theorem dX1_checkBehind_172 : decode cX1_checkBehind 172 = .ok (.aload_n 0, 1) := by decide +kernel
theorem dX1_checkBehind_173 : decode cX1_checkBehind 173 = .ok (.iload_n 1, 1) := by decide +kernel
theorem dX1_checkBehind_174 : decode cX1_checkBehind 174 = .ok (.iconst 1, 1) := by decide +kernel
theorem dX1_checkBehind_175 : decode cX1_checkBehind 175 = .ok (.iadd, 1) := by decide +kernel
theorem dX1_checkBehind_176 : decode cX1_checkBehind 176 = .ok (.invokevirtual 79, 3) := by decide +kernel
theorem dX1_checkBehind_179 : decode cX1_checkBehind 179 = .ok (.invokevirtual 93, 3) := by decide +kernel
theorem dX1_checkBehind_182 : decode cX1_checkBehind 182 = .ok (.invokestatic 89, 3) := by decide +kernel
theorem dX1_checkBehind_185 : decode cX1_checkBehind 185 = .ok (.goto 3, 3) := by decide +kernel
theorem dX1_checkBehind_188 : decode cX1_checkBehind 188 = .ok (.return_, 1) := by decide +kernel
theorem dX1_checkNamed_0 : decode cX1_checkNamed 0 = .ok (.aload_n 0, 1) := by decide +kernel
theorem dX1_checkNamed_1 : decode cX1_checkNamed 1 = .ok (.iload_n 2, 1) := by decide +kernel
theorem dX1_checkNamed_2 : decode cX1_checkNamed 2 = .ok (.ifCond .lt 7, 3) := by decide +kernel
theorem dX1_checkNamed_5 : decode cX1_checkNamed 5 = .ok (.iconst 1, 1) := by decide +kernel
theorem dX1_checkNamed_6 : decode cX1_checkNamed 6 = .ok (.goto 4, 3) := by decide +kernel
theorem dX1_checkNamed_9 : decode cX1_checkNamed 9 = .ok (.iconst 0, 1) := by decide +kernel
theorem dX1_checkNamed_10 : decode cX1_checkNamed 10 = .ok (.iconst 3, 1) := by decide +kernel
theorem dX1_checkNamed_11 : decode cX1_checkNamed 11 = .ok (.iload_n 1, 1) := by decide +kernel
theorem dX1_checkNamed_12 : decode cX1_checkNamed 12 = .ok (.invokevirtual 28, 3) := by decide +kernel
theorem dX1_checkNamed_15 : decode cX1_checkNamed 15 = .ok (.aload_n 0, 1) := by decide +kernel
theorem dX1_checkNamed_16 : decode cX1_checkNamed 16 = .ok (.iload_n 1, 1) := by decide +kernel
theorem dX1_checkNamed_17 : decode cX1_checkNamed 17 = .ok (.iload_n 2, 1) := by decide +kernel
theorem dX1_checkNamed_18 : decode cX1_checkNamed 18 = .ok (.invokevirtual 96, 3) := by decide +kernel
theorem dX1_checkNamed_21 : decode cX1_checkNamed 21 = .ok (.return_, 1) := by decide +kernel
theorem dX1_checkFront_0 : decode cX1_checkFront 0 = .ok (.aload_n 0, 1) := by decide +kernel
theorem dX1_checkFront_1 : decode cX1_checkFront 1 = .ok (.iload_n 1, 1) := by decide +kernel
theorem dX1_checkFront_2 : decode cX1_checkFront 2 = .ok (.invokevirtual 79, 3) := by decide +kernel
theorem dX1_checkFront_5 : decode cX1_checkFront 5 = .ok (.lstore_n 3, 1) := by decide +kernel
theorem dX1_checkFront_6 : decode cX1_checkFront 6 = .ok (.aload_n 0, 1) := by decide +kernel
theorem dX1_checkFront_7 : decode cX1_checkFront 7 = .ok (.aload_n 2, 1) := by decide +kernel
theorem dX1_checkFront_8 : decode cX1_checkFront 8 = .ok (.lload_n 3, 1) := by decide +kernel
theorem dX1_checkFront_9 : decode cX1_checkFront 9 = .ok (.invokevirtual 83, 3) := by decide +kernel
theorem dX1_checkFront_12 : decode cX1_checkFront 12 = .ok (.ifCond .ge 7, 3) := by decide +kernel
theorem dX1_checkFront_15 : decode cX1_checkFront 15 = .ok (.iconst 1, 1) := by decide +kernel
theorem dX1_checkFront_16 : decode cX1_checkFront 16 = .ok (.goto 4, 3) := by decide +kernel
theorem dX1_checkFront_19 : decode cX1_checkFront 19 = .ok (.iconst 0, 1) := by decide +kernel
theorem dX1_checkFront_20 : decode cX1_checkFront 20 = .ok (.iconst 2, 1) := by decide +kernel
theorem dX1_checkFront_21 : decode cX1_checkFront 21 = .ok (.iload_n 1, 1) := by decide +kernel
theorem dX1_checkFront_22 : decode cX1_checkFront 22 = .ok (.invokevirtual 28, 3) := by decide +kernel
theorem dX1_checkFront_25 : decode cX1_checkFront 25 = .ok (.aload_n 0, 1) := by decide +kernel
theorem dX1_checkFront_26 : decode cX1_checkFront 26 = .ok (.aload_n 2, 1) := by decide +kernel
theorem dX1_checkFront_27 : decode cX1_checkFront 27 = .ok (.getfield 100, 3) := by decide +kernel
theorem dX1_checkFront_30 : decode cX1_checkFront 30 = .ok (.bipush 10, 2) := by decide +kernel
theorem dX1_checkFront_32 : decode cX1_checkFront 32 = .ok (.if_icmp .ge 7, 3) := by decide +kernel
theorem dX1_checkFront_35 : decode cX1_checkFront 35 = .ok (.iconst 1, 1) := by decide +kernel
theorem dX1_checkFront_36 : decode cX1_checkFront 36 = .ok (.goto 4, 3) := by decide +kernel
theorem dX1_checkFront_39 : decode cX1_checkFront 39 = .ok (.iconst 0, 1) := by decide +kernel
theorem dX1_checkFront_40 : decode cX1_checkFront 40 = .ok (.iconst 4, 1) := by decide +kernel
theorem dX1_checkFront_41 : decode cX1_checkFront 41 = .ok (.iload_n 1, 1) := by decide +kernel
theorem dX1_checkFront_42 : decode cX1_checkFront 42 = .ok (.invokevirtual 28, 3) := by decide +kernel
theorem dX1_checkFront_45 : decode cX1_checkFront 45 = .ok (.aload_n 0, 1) := by decide +kernel
theorem dX1_checkFront_46 : decode cX1_checkFront 46 = .ok (.iload_n 1, 1) := by decide +kernel
theorem dX1_checkFront_47 : decode cX1_checkFront 47 = .ok (.iconst 2, 1) := by decide +kernel
theorem dX1_checkFront_48 : decode cX1_checkFront 48 = .ok (.iadd, 1) := by decide +kernel
theorem dX1_checkFront_49 : decode cX1_checkFront 49 = .ok (.invokevirtual 18, 3) := by decide +kernel
theorem dX1_checkFront_52 : decode cX1_checkFront 52 = .ok (.getstatic 101, 3) := by decide +kernel
theorem dX1_checkFront_55 : decode cX1_checkFront 55 = .ok (.if_acmp .ne 7, 3) := by decide +kernel
theorem dX1_checkFront_58 : decode cX1_checkFront 58 = .ok (.iconst 1, 1) := by decide +kernel
theorem dX1_checkFront_59 : decode cX1_checkFront 59 = .ok (.goto 4, 3) := by decide +kernel
theorem dX1_checkFront_62 : decode cX1_checkFront 62 = .ok (.iconst 0, 1) := by decide +kernel
theorem dX1_checkFront_63 : decode cX1_checkFront 63 = .ok (.istore 5, 2) := by decide +kernel
theorem dX1_checkFront_65 : decode cX1_checkFront 65 = .ok (.aload_n 0, 1) := by decide +kernel
theorem dX1_checkFront_66 : decode cX1_checkFront 66 = .ok (.iload_n 1, 1) := by decide +kernel
theorem dX1_checkFront_67 : decode cX1_checkFront 67 = .ok (.iconst 4, 1) := by decide +kernel
theorem dX1_checkFront_68 : decode cX1_checkFront 68 = .ok (.iadd, 1) := by decide +kernel
theorem dX1_checkFront_69 : decode cX1_checkFront 69 = .ok (.iconst 1, 1) := by decide +kernel
theorem dX1_checkFront_70 : decode cX1_checkFront 70 = .ok (.bipush 9, 2) := by decide +kernel
theorem dX1_checkFront_72 : decode cX1_checkFront 72 = .ok (.invokestatic 104, 3) := by decide +kernel
theorem dX1_checkFront_75 : decode cX1_checkFront 75 = .ok (.istore 6, 2) := by decide +kernel
theorem dX1_checkFront_77 : decode cX1_checkFront 77 = .ok (.aload_n 0, 1) := by decide +kernel
theorem dX1_checkFront_78 : decode cX1_checkFront 78 = .ok (.iload_n 1, 1) := by decide +kernel
theorem dX1_checkFront_79 : decode cX1_checkFront 79 = .ok (.bipush 6, 2) := by decide +kernel
theorem dX1_checkFront_81 : decode cX1_checkFront 81 = .ok (.iadd, 1) := by decide +kernel
theorem dX1_checkFront_82 : decode cX1_checkFront 82 = .ok (.iconst 0, 1) := by decide +kernel
theorem dX1_checkFront_83 : decode cX1_checkFront 83 = .ok (.bipush 60, 2) := by decide +kernel
theorem dX1_checkFront_85 : decode cX1_checkFront 85 = .ok (.invokestatic 104, 3) := by decide +kernel
theorem dX1_checkFront_88 : decode cX1_checkFront 88 = .ok (.istore 7, 2) := by decide +kernel
theorem dX1_checkFront_90 : decode cX1_checkFront 90 = .ok (.aload_n 0, 1) := by decide +kernel
theorem dX1_checkFront_91 : decode cX1_checkFront 91 = .ok (.iload_n 1, 1) := by decide +kernel
theorem dX1_checkFront_92 : decode cX1_checkFront 92 = .ok (.bipush 8, 2) := by decide +kernel
theorem dX1_checkFront_94 : decode cX1_checkFront 94 = .ok (.iadd, 1) := by decide +kernel
theorem dX1_checkFront_95 : decode cX1_checkFront 95 = .ok (.iconst 1, 1) := by decide +kernel
theorem dX1_checkFront_96 : decode cX1_checkFront 96 = .ok (.bipush 12, 2) := by decide +kernel
theorem dX1_checkFront_98 : decode cX1_checkFront 98 = .ok (.invokestatic 104, 3) := by decide +kernel
theorem dX1_checkFront_101 : decode cX1_checkFront 101 = .ok (.istore 8, 2) := by decide +kernel
theorem dX1_checkFront_103 : decode cX1_checkFront 103 = .ok (.aload_n 2, 1) := by decide +kernel
theorem dX1_checkFront_104 : decode cX1_checkFront 104 = .ok (.lload_n 3, 1) := by decide +kernel
theorem dX1_checkFront_105 : decode cX1_checkFront 105 = .ok (.iload 5, 2) := by decide +kernel
theorem dX1_checkFront_107 : decode cX1_checkFront 107 = .ok (.iload 6, 2) := by decide +kernel
theorem dX1_checkFront_109 : decode cX1_checkFront 109 = .ok (.iload 7, 2) := by decide +kernel
theorem dX1_checkFront_111 : decode cX1_checkFront 111 = .ok (.iload 8, 2) := by decide +kernel
theorem dX1_checkFront_113 : decode cX1_checkFront 113 = .ok (.invokevirtual 108, 3) := by decide +kernel
theorem dX1_checkFront_116 : decode cX1_checkFront 116 = .ok (.return_, 1) := by decide +kernel
theorem dX1_checkGuest_0 : decode cX1_checkGuest 0 = .ok (.aload_n 0, 1) := by decide +kernel
theorem dX1_checkGuest_1 : decode cX1_checkGuest 1 = .ok (.iload_n 1, 1) := by decide +kernel
theorem dX1_checkGuest_2 : decode cX1_checkGuest 2 = .ok (.invokevirtual 79, 3) := by decide +kernel
theorem dX1_checkGuest_5 : decode cX1_checkGuest 5 = .ok (.lstore_n 3, 1) := by decide +kernel
theorem dX1_checkGuest_6 : decode cX1_checkGuest 6 = .ok (.aload_n 0, 1) := by decide +kernel
theorem dX1_checkGuest_7 : decode cX1_checkGuest 7 = .ok (.aload_n 2, 1) := by decide +kernel
theorem dX1_checkGuest_8 : decode cX1_checkGuest 8 = .ok (.lload_n 3, 1) := by decide +kernel
theorem dX1_checkGuest_9 : decode cX1_checkGuest 9 = .ok (.invokevirtual 93, 3) := by decide +kernel
theorem dX1_checkGuest_12 : decode cX1_checkGuest 12 = .ok (.ifCond .ge 7, 3) := by decide +kernel
theorem dX1_checkGuest_15 : decode cX1_checkGuest 15 = .ok (.iconst 1, 1) := by decide +kernel
theorem dX1_checkGuest_16 : decode cX1_checkGuest 16 = .ok (.goto 4, 3) := by decide +kernel
theorem dX1_checkGuest_19 : decode cX1_checkGuest 19 = .ok (.iconst 0, 1) := by decide +kernel
theorem dX1_checkGuest_20 : decode cX1_checkGuest 20 = .ok (.iconst 2, 1) := by decide +kernel
theorem dX1_checkGuest_21 : decode cX1_checkGuest 21 = .ok (.iload_n 1, 1) := by decide +kernel
theorem dX1_checkGuest_22 : decode cX1_checkGuest 22 = .ok (.invokevirtual 28, 3) := by decide +kernel
theorem dX1_checkGuest_25 : decode cX1_checkGuest 25 = .ok (.aload_n 0, 1) := by decide +kernel
theorem dX1_checkGuest_26 : decode cX1_checkGuest 26 = .ok (.aload_n 2, 1) := by decide +kernel
theorem dX1_checkGuest_27 : decode cX1_checkGuest 27 = .ok (.getfield 112, 3) := by decide +kernel
theorem dX1_checkGuest_30 : decode cX1_checkGuest 30 = .ok (.bipush 10, 2) := by decide +kernel
theorem dX1_checkGuest_32 : decode cX1_checkGuest 32 = .ok (.if_icmp .ge 7, 3) := by decide +kernel
theorem dX1_checkGuest_35 : decode cX1_checkGuest 35 = .ok (.iconst 1, 1) := by decide +kernel
theorem dX1_checkGuest_36 : decode cX1_checkGuest 36 = .ok (.goto 4, 3) := by decide +kernel
theorem dX1_checkGuest_39 : decode cX1_checkGuest 39 = .ok (.iconst 0, 1) := by decide +kernel
theorem dX1_checkGuest_40 : decode cX1_checkGuest 40 = .ok (.iconst 4, 1) := by decide +kernel
theorem dX1_checkGuest_41 : decode cX1_checkGuest 41 = .ok (.iload_n 1, 1) := by decide +kernel
theorem dX1_checkGuest_42 : decode cX1_checkGuest 42 = .ok (.invokevirtual 28, 3) := by decide +kernel
theorem dX1_checkGuest_45 : decode cX1_checkGuest 45 = .ok (.aload_n 0, 1) := by decide +kernel
theorem dX1_checkGuest_46 : decode cX1_checkGuest 46 = .ok (.iload_n 1, 1) := by decide +kernel
theorem dX1_checkGuest_47 : decode cX1_checkGuest 47 = .ok (.iconst 2, 1) := by decide +kernel
theorem dX1_checkGuest_48 : decode cX1_checkGuest 48 = .ok (.iadd, 1) := by decide +kernel
theorem dX1_checkGuest_49 : decode cX1_checkGuest 49 = .ok (.iconst 0, 1) := by decide +kernel
theorem dX1_checkGuest_50 : decode cX1_checkGuest 50 = .ok (.bipush 60, 2) := by decide +kernel
theorem dX1_checkGuest_52 : decode cX1_checkGuest 52 = .ok (.invokestatic 104, 3) := by decide +kernel
theorem dX1_checkGuest_55 : decode cX1_checkGuest 55 = .ok (.istore 5, 2) := by decide +kernel
theorem dX1_checkGuest_57 : decode cX1_checkGuest 57 = .ok (.aload_n 0, 1) := by decide +kernel
theorem dX1_checkGuest_58 : decode cX1_checkGuest 58 = .ok (.iload_n 1, 1) := by decide +kernel
theorem dX1_checkGuest_59 : decode cX1_checkGuest 59 = .ok (.iconst 4, 1) := by decide +kernel
theorem dX1_checkGuest_60 : decode cX1_checkGuest 60 = .ok (.iadd, 1) := by decide +kernel
theorem dX1_checkGuest_61 : decode cX1_checkGuest 61 = .ok (.iconst 0, 1) := by decide +kernel
theorem dX1_checkGuest_62 : decode cX1_checkGuest 62 = .ok (.bipush 30, 2) := by decide +kernel
theorem dX1_checkGuest_64 : decode cX1_checkGuest 64 = .ok (.invokestatic 104, 3) := by decide +kernel
theorem dX1_checkGuest_67 : decode cX1_checkGuest 67 = .ok (.istore 6, 2) := by decide +kernel
theorem dX1_checkGuest_69 : decode cX1_checkGuest 69 = .ok (.aload_n 0, 1) := by decide +kernel
theorem dX1_checkGuest_70 : decode cX1_checkGuest 70 = .ok (.iload_n 1, 1) := by decide +kernel
theorem dX1_checkGuest_71 : decode cX1_checkGuest 71 = .ok (.bipush 6, 2) := by decide +kernel
theorem dX1_checkGuest_73 : decode cX1_checkGuest 73 = .ok (.iadd, 1) := by decide +kernel
theorem dX1_checkGuest_74 : decode cX1_checkGuest 74 = .ok (.iload 6, 2) := by decide +kernel
theorem dX1_checkGuest_76 : decode cX1_checkGuest 76 = .ok (.bipush 30, 2) := by decide +kernel
theorem dX1_checkGuest_78 : decode cX1_checkGuest 78 = .ok (.invokestatic 104, 3) := by decide +kernel
theorem dX1_checkGuest_81 : decode cX1_checkGuest 81 = .ok (.istore 7, 2) := by decide +kernel
theorem dX1_checkGuest_83 : decode cX1_checkGuest 83 = .ok (.aload_n 0, 1) := by decide +kernel
theorem dX1_checkGuest_84 : decode cX1_checkGuest 84 = .ok (.iload_n 1, 1) := by decide +kernel
theorem dX1_checkGuest_85 : decode cX1_checkGuest 85 = .ok (.bipush 8, 2) := by decide +kernel
theorem dX1_checkGuest_87 : decode cX1_checkGuest 87 = .ok (.iadd, 1) := by decide +kernel
theorem dX1_checkGuest_88 : decode cX1_checkGuest 88 = .ok (.iconst 0, 1) := by decide +kernel
theorem dX1_checkGuest_89 : decode cX1_checkGuest 89 = .ok (.bipush 20, 2) := by decide +kernel
theorem dX1_checkGuest_91 : decode cX1_checkGuest 91 = .ok (.invokestatic 104, 3) := by decide +kernel
theorem dX1_checkGuest_94 : decode cX1_checkGuest 94 = .ok (.istore 8, 2) := by decide +kernel
theorem dX1_checkGuest_96 : decode cX1_checkGuest 96 = .ok (.aload_n 2, 1) := by decide +kernel
theorem dX1_checkGuest_97 : decode cX1_checkGuest 97 = .ok (.lload_n 3, 1) := by decide +kernel
theorem dX1_checkGuest_98 : decode cX1_checkGuest 98 = .ok (.iload 5, 2) := by decide +kernel
theorem dX1_checkGuest_100 : decode cX1_checkGuest 100 = .ok (.iload 6, 2) := by decide +kernel
theorem dX1_checkGuest_102 : decode cX1_checkGuest 102 = .ok (.iload 7, 2) := by decide +kernel
theorem dX1_checkGuest_104 : decode cX1_checkGuest 104 = .ok (.iload 8, 2) := by decide +kernel
theorem dX1_checkGuest_106 : decode cX1_checkGuest 106 = .ok (.invokevirtual 113, 3) := by decide +kernel
theorem dX1_checkGuest_109 : decode cX1_checkGuest 109 = .ok (.return_, 1) := by decide +kernel
theorem dX1_numberIn_0 : decode cX1_numberIn 0 = .ok (.aload_n 0, 1) := by decide +kernel
theorem dX1_numberIn_1 : decode cX1_numberIn 1 = .ok (.iload_n 1, 1) := by decide +kernel
theorem dX1_numberIn_2 : decode cX1_numberIn 2 = .ok (.invokevirtual 79, 3) := by decide +kernel
theorem dX1_numberIn_5 : decode cX1_numberIn 5 = .ok (.l2i, 1) := by decide +kernel
theorem dX1_numberIn_6 : decode cX1_numberIn 6 = .ok (.istore 4, 2) := by decide +kernel
theorem dX1_numberIn_8 : decode cX1_numberIn 8 = .ok (.aload_n 0, 1) := by decide +kernel
theorem dX1_numberIn_9 : decode cX1_numberIn 9 = .ok (.iload 4, 2) := by decide +kernel
theorem dX1_numberIn_11 : decode cX1_numberIn 11 = .ok (.iload_n 2, 1) := by decide +kernel
theorem dX1_numberIn_12 : decode cX1_numberIn 12 = .ok (.if_icmp .lt 13, 3) := by decide +kernel
theorem dX1_numberIn_15 : decode cX1_numberIn 15 = .ok (.iload 4, 2) := by decide +kernel
theorem dX1_numberIn_17 : decode cX1_numberIn 17 = .ok (.iload_n 3, 1) := by decide +kernel
theorem dX1_numberIn_18 : decode cX1_numberIn 18 = .ok (.if_icmp .gt 7, 3) := by decide +kernel
theorem dX1_numberIn_21 : decode cX1_numberIn 21 = .ok (.iconst 1, 1) := by decide +kernel
theorem dX1_numberIn_22 : decode cX1_numberIn 22 = .ok (.goto 4, 3) := by decide +kernel
theorem dX1_numberIn_25 : decode cX1_numberIn 25 = .ok (.iconst 0, 1) := by decide +kernel
theorem dX1_numberIn_26 : decode cX1_numberIn 26 = .ok (.iconst 5, 1) := by decide +kernel
theorem dX1_numberIn_27 : decode cX1_numberIn 27 = .ok (.iload_n 1, 1) := by decide +kernel
theorem dX1_numberIn_28 : decode cX1_numberIn 28 = .ok (.invokevirtual 28, 3) := by decide +kernel
theorem dX1_numberIn_31 : decode cX1_numberIn 31 = .ok (.iload 4, 2) := by decide +kernel
theorem dX1_numberIn_33 : decode cX1_numberIn 33 = .ok (.ireturn, 1) := by decide +kernel
theorem dX2_init_0 : decode cX2_init 0 = .ok (.aload_n 0, 1) := by decide +kernel
theorem dX2_init_1 : decode cX2_init 1 = .ok (.invokespecial 3, 3) := by decide +kernel
theorem dX2_init_4 : decode cX2_init 4 = .ok (.aload_n 0, 1) := by decide +kernel
theorem dX2_init_5 : decode cX2_init 5 = .ok (.bipush 10, 2) := by decide +kernel
theorem dX2_init_7 : decode cX2_init 7 = .ok (.newarray .long, 2) := by decide +kernel
theorem dX2_init_9 : decode cX2_init 9 = .ok (.putfield 9, 3) := by decide +kernel
theorem dX2_init_12 : decode cX2_init 12 = .ok (.aload_n 0, 1) := by decide +kernel
theorem dX2_init_13 : decode cX2_init 13 = .ok (.bipush 10, 2) := by decide +kernel
theorem dX2_init_15 : decode cX2_init 15 = .ok (.newarray .boolean, 2) := by decide +kernel
theorem dX2_init_17 : decode cX2_init 17 = .ok (.putfield 15, 3) := by decide +kernel
theorem dX2_init_20 : decode cX2_init 20 = .ok (.aload_n 0, 1) := by decide +kernel
theorem dX2_init_21 : decode cX2_init 21 = .ok (.bipush 10, 2) := by decide +kernel
theorem dX2_init_23 : decode cX2_init 23 = .ok (.newarray .int, 2) := by decide +kernel
theorem dX2_init_25 : decode cX2_init 25 = .ok (.putfield 19, 3) := by decide +kernel
theorem dX2_init_28 : decode cX2_init 28 = .ok (.aload_n 0, 1) := by decide +kernel
theorem dX2_init_29 : decode cX2_init 29 = .ok (.bipush 10, 2) := by decide +kernel
theorem dX2_init_31 : decode cX2_init 31 = .ok (.newarray .int, 2) := by decide +kernel
theorem dX2_init_33 : decode cX2_init 33 = .ok (.putfield 23, 3) := by decide +kernel
theorem dX2_init_36 : decode cX2_init 36 = .ok (.aload_n 0, 1) := by decide +kernel
theorem dX2_init_37 : decode cX2_init 37 = .ok (.bipush 10, 2) := by decide +kernel
theorem dX2_init_39 : decode cX2_init 39 = .ok (.newarray .int, 2) := by decide +kernel
theorem dX2_init_41 : decode cX2_init 41 = .ok (.putfield 26, 3) := by decide +kernel
theorem dX2_init_44 : decode cX2_init 44 = .ok (.return_, 1) := by decide +kernel
theorem dX2_has_0 : decode cX2_has 0 = .ok (.iload_n 1, 1) := by decide +kernel
theorem dX2_has_1 : decode cX2_has 1 = .ok (.ifCond .lt 21, 3) := by decide +kernel
theorem dX2_has_4 : decode cX2_has 4 = .ok (.iload_n 1, 1) := by decide +kernel
theorem dX2_has_5 : decode cX2_has 5 = .ok (.aload_n 0, 1) := by decide +kernel
theorem dX2_has_6 : decode cX2_has 6 = .ok (.getfield 29, 3) := by decide +kernel
theorem dX2_has_9 : decode cX2_has 9 = .ok (.if_icmp .ge 13, 3) := by decide +kernel
theorem dX2_has_12 : decode cX2_has 12 = .ok (.iload_n 1, 1) := by decide +kernel
theorem dX2_has_13 : decode cX2_has 13 = .ok (.bipush 10, 2) := by decide +kernel
theorem dX2_has_15 : decode cX2_has 15 = .ok (.if_icmp .ge 7, 3) := by decide +kernel
theorem dX2_has_18 : decode cX2_has 18 = .ok (.iconst 1, 1) := by decide +kernel
theorem dX2_has_19 : decode cX2_has 19 = .ok (.goto 4, 3) := by decide +kernel
theorem dX2_has_22 : decode cX2_has 22 = .ok (.iconst 0, 1) := by decide +kernel
theorem dX2_has_23 : decode cX2_has 23 = .ok (.ireturn, 1) := by decide +kernel
theorem dX2_find_0 : decode cX2_find 0 = .ok (.iconst 0, 1) := by decide +kernel
theorem dX2_find_1 : decode cX2_find 1 = .ok (.istore_n 3, 1) := by decide +kernel
theorem dX2_find_2 : decode cX2_find 2 = .ok (.iload_n 3, 1) := by decide +kernel
theorem dX2_find_3 : decode cX2_find 3 = .ok (.aload_n 0, 1) := by decide +kernel
theorem dX2_find_4 : decode cX2_find 4 = .ok (.getfield 29, 3) := by decide +kernel
theorem dX2_find_7 : decode cX2_find 7 = .ok (.if_icmp .ge 22, 3) := by decide +kernel
theorem dX2_find_10 : decode cX2_find 10 = .ok (.aload_n 0, 1) := by decide +kernel
theorem dX2_find_11 : decode cX2_find 11 = .ok (.getfield 9, 3) := by decide +kernel
theorem dX2_find_14 : decode cX2_find 14 = .ok (.iload_n 3, 1) := by decide +kernel
theorem dX2_find_15 : decode cX2_find 15 = .ok (.laload, 1) := by decide +kernel
theorem dX2_find_16 : decode cX2_find 16 = .ok (.lload_n 1, 1) := by decide +kernel
theorem dX2_find_17 : decode cX2_find 17 = .ok (.lcmp, 1) := by decide +kernel
theorem dX2_find_18 : decode cX2_find 18 = .ok (.ifCond .ne 5, 3) := by decide +kernel
theorem dX2_find_21 : decode cX2_find 21 = .ok (.iload_n 3, 1) := by decide +kernel
theorem dX2_find_22 : decode cX2_find 22 = .ok (.ireturn, 1) := by decide +kernel
theorem dX2_find_23 : decode cX2_find 23 = .ok (.iinc 3 1, 3) := by decide +kernel
theorem dX2_find_26 : decode cX2_find 26 = .ok (.goto (-24), 3) := by decide +kernel
theorem dX2_find_29 : decode cX2_find 29 = .ok (.iconst (-1), 1) := by decide +kernel
theorem dX2_find_30 : decode cX2_find 30 = .ok (.ireturn, 1) := by decide +kernel
theorem dX2_add_0 : decode cX2_add 0 = .ok (.aload_n 0, 1) := by decide +kernel
theorem dX2_add_1 : decode cX2_add 1 = .ok (.getfield 29, 3) := by decide +kernel
theorem dX2_add_4 : decode cX2_add 4 = .ok (.bipush 10, 2) := by decide +kernel
theorem dX2_add_6 : decode cX2_add 6 = .ok (.if_icmp .ge 66, 3) := by decide +kernel
theorem dX2_add_9 : decode cX2_add 9 = .ok (.aload_n 0, 1) := by decide +kernel
theorem dX2_add_10 : decode cX2_add 10 = .ok (.getfield 9, 3) := by decide +kernel
theorem dX2_add_13 : decode cX2_add 13 = .ok (.aload_n 0, 1) := by decide +kernel
theorem dX2_add_14 : decode cX2_add 14 = .ok (.getfield 29, 3) := by decide +kernel
theorem dX2_add_17 : decode cX2_add 17 = .ok (.lload_n 1, 1) := by decide +kernel
theorem dX2_add_18 : decode cX2_add 18 = .ok (.lastore, 1) := by decide +kernel
theorem dX2_add_19 : decode cX2_add 19 = .ok (.aload_n 0, 1) := by decide +kernel
theorem dX2_add_20 : decode cX2_add 20 = .ok (.getfield 15, 3) := by decide +kernel
theorem dX2_add_23 : decode cX2_add 23 = .ok (.aload_n 0, 1) := by decide +kernel
theorem dX2_add_24 : decode cX2_add 24 = .ok (.getfield 29, 3) := by decide +kernel
theorem dX2_add_27 : decode cX2_add 27 = .ok (.iload_n 3, 1) := by decide +kernel
theorem dX2_add_28 : decode cX2_add 28 = .ok (.bastore, 1) := by decide +kernel
theorem dX2_add_29 : decode cX2_add 29 = .ok (.aload_n 0, 1) := by decide +kernel
theorem dX2_add_30 : decode cX2_add 30 = .ok (.getfield 19, 3) := by decide +kernel
theorem dX2_add_33 : decode cX2_add 33 = .ok (.aload_n 0, 1) := by decide +kernel
theorem dX2_add_34 : decode cX2_add 34 = .ok (.getfield 29, 3) := by decide +kernel
theorem dX2_add_37 : decode cX2_add 37 = .ok (.iload 4, 2) := by decide +kernel
theorem dX2_add_39 : decode cX2_add 39 = .ok (.iastore, 1) := by decide +kernel
theorem dX2_add_40 : decode cX2_add 40 = .ok (.aload_n 0, 1) := by decide +kernel
theorem dX2_add_41 : decode cX2_add 41 = .ok (.getfield 23, 3) := by decide +kernel
theorem dX2_add_44 : decode cX2_add 44 = .ok (.aload_n 0, 1) := by decide +kernel
theorem dX2_add_45 : decode cX2_add 45 = .ok (.getfield 29, 3) := by decide +kernel
theorem dX2_add_48 : decode cX2_add 48 = .ok (.iload 5, 2) := by decide +kernel
theorem dX2_add_50 : decode cX2_add 50 = .ok (.iastore, 1) := by decide +kernel
theorem dX2_add_51 : decode cX2_add 51 = .ok (.aload_n 0, 1) := by decide +kernel
theorem dX2_add_52 : decode cX2_add 52 = .ok (.getfield 26, 3) := by decide +kernel
theorem dX2_add_55 : decode cX2_add 55 = .ok (.aload_n 0, 1) := by decide +kernel
theorem dX2_add_56 : decode cX2_add 56 = .ok (.getfield 29, 3) := by decide +kernel
theorem dX2_add_59 : decode cX2_add 59 = .ok (.iload 6, 2) := by decide +kernel
theorem dX2_add_61 : decode cX2_add 61 = .ok (.iastore, 1) := by decide +kernel
theorem dX2_add_62 : decode cX2_add 62 = .ok (.aload_n 0, 1) := by decide +kernel
theorem dX2_add_63 : decode cX2_add 63 = .ok (.dup, 1) := by decide +kernel
theorem dX2_add_64 : decode cX2_add 64 = .ok (.getfield 29, 3) := by decide +kernel
theorem dX2_add_67 : decode cX2_add 67 = .ok (.iconst 1, 1) := by decide +kernel
theorem dX2_add_68 : decode cX2_add 68 = .ok (.iadd, 1) := by decide +kernel
theorem dX2_add_69 : decode cX2_add 69 = .ok (.putfield 29, 3) := by decide +kernel
theorem dX2_add_72 : decode cX2_add 72 = .ok (.return_, 1) := by decide +kernel
theorem dX3_read_0 : decode cX3_read 0 = .ok (.iconst 1, 1) := by decide +kernel
theorem dX3_read_1 : decode cX3_read 1 = .ok (.istore_n 2, 1) := by decide +kernel
theorem dX3_read_2 : decode cX3_read 2 = .ok (.iconst 0, 1) := by decide +kernel
theorem dX3_read_3 : decode cX3_read 3 = .ok (.istore_n 3, 1) := by decide +kernel
theorem dX3_read_4 : decode cX3_read 4 = .ok (.iload_n 3, 1) := by decide +kernel
theorem dX3_read_5 : decode cX3_read 5 = .ok (.sipush 400, 3) := by decide +kernel
theorem dX3_read_8 : decode cX3_read 8 = .ok (.if_icmp .ge 47, 3) := by decide +kernel
theorem dX3_read_11 : decode cX3_read 11 = .ok (.iload_n 2, 1) := by decide +kernel
theorem dX3_read_12 : decode cX3_read 12 = .ok (.ifCond .eq 43, 3) := by decide +kernel
theorem dX3_read_15 : decode cX3_read 15 = .ok (.aload_n 0, 1) := by decide +kernel
theorem dX3_read_16 : decode cX3_read 16 = .ok (.invokevirtual 9, 3) := by decide +kernel
theorem dX3_read_19 : decode cX3_read 19 = .ok (.getstatic 15, 3) := by decide +kernel
theorem dX3_read_22 : decode cX3_read 22 = .ok (.if_acmp .eq 33, 3) := by decide +kernel
theorem dX3_read_25 : decode cX3_read 25 = .ok (.aload_n 0, 1) := by decide +kernel
theorem dX3_read_26 : decode cX3_read 26 = .ok (.aload_n 1, 1) := by decide +kernel
theorem dX3_read_27 : decode cX3_read 27 = .ok (.invokestatic 21, 3) := by decide +kernel
theorem dX3_read_30 : decode cX3_read 30 = .ok (.ifCond .eq 17, 3) := by decide +kernel
theorem dX3_read_33 : decode cX3_read 33 = .ok (.aload_n 0, 1) := by decide +kernel
theorem dX3_read_34 : decode cX3_read 34 = .ok (.getstatic 27, 3) := by decide +kernel
theorem dX3_read_37 : decode cX3_read 37 = .ok (.invokevirtual 30, 3) := by decide +kernel
theorem dX3_read_40 : decode cX3_read 40 = .ok (.ifCond .eq 7, 3) := by decide +kernel
theorem dX3_read_43 : decode cX3_read 43 = .ok (.iconst 1, 1) := by decide +kernel
theorem dX3_read_44 : decode cX3_read 44 = .ok (.goto 4, 3) := by decide +kernel
theorem dX3_read_47 : decode cX3_read 47 = .ok (.iconst 0, 1) := by decide +kernel
theorem dX3_read_48 : decode cX3_read 48 = .ok (.istore_n 2, 1) := by decide +kernel
theorem dX3_read_49 : decode cX3_read 49 = .ok (.iinc 3 1, 3) := by decide +kernel
theorem dX3_read_52 : decode cX3_read 52 = .ok (.goto (-48), 3) := by decide +kernel
theorem dX3_read_55 : decode cX3_read 55 = .ok (.aload_n 0, 1) := by decide +kernel
theorem dX3_read_56 : decode cX3_read 56 = .ok (.aload_n 0, 1) := by decide +kernel
theorem dX3_read_57 : decode cX3_read 57 = .ok (.invokevirtual 9, 3) := by decide +kernel
theorem dX3_read_60 : decode cX3_read 60 = .ok (.getstatic 15, 3) := by decide +kernel
theorem dX3_read_63 : decode cX3_read 63 = .ok (.if_acmp .ne 11, 3) := by decide +kernel
theorem dX3_read_66 : decode cX3_read 66 = .ok (.iload_n 2, 1) := by decide +kernel
theorem dX3_read_67 : decode cX3_read 67 = .ok (.ifCond .eq 7, 3) := by decide +kernel
theorem dX3_read_70 : decode cX3_read 70 = .ok (.iconst 1, 1) := by decide +kernel
theorem dX3_read_71 : decode cX3_read 71 = .ok (.goto 4, 3) := by decide +kernel
theorem dX3_read_74 : decode cX3_read 74 = .ok (.iconst 0, 1) := by decide +kernel
theorem dX3_read_75 : decode cX3_read 75 = .ok (.iconst 1, 1) := by decide +kernel
theorem dX3_read_76 : decode cX3_read 76 = .ok (.aload_n 0, 1) := by decide +kernel
theorem dX3_read_77 : decode cX3_read 77 = .ok (.getfield 34, 3) := by decide +kernel
theorem dX3_read_80 : decode cX3_read 80 = .ok (.invokevirtual 38, 3) := by decide +kernel
theorem dX3_read_83 : decode cX3_read 83 = .ok (.return_, 1) := by decide +kernel
theorem dX3_line_0 : decode cX3_line 0 = .ok (.aload_n 0, 1) := by decide +kernel
theorem dX3_line_1 : decode cX3_line 1 = .ok (.getstatic 42, 3) := by decide +kernel
theorem dX3_line_4 : decode cX3_line 4 = .ok (.invokevirtual 30, 3) := by decide +kernel
theorem dX3_line_7 : decode cX3_line 7 = .ok (.ifCond .eq 79, 3) := by decide +kernel
theorem dX3_line_10 : decode cX3_line 10 = .ok (.aload_n 0, 1) := by decide +kernel
theorem dX3_line_11 : decode cX3_line 11 = .ok (.getstatic 45, 3) := by decide +kernel
theorem dX3_line_14 : decode cX3_line 14 = .ok (.invokevirtual 30, 3) := by decide +kernel
theorem dX3_line_17 : decode cX3_line 17 = .ok (.ifCond .eq 67, 3) := by decide +kernel
theorem dX3_line_20 : decode cX3_line 20 = .ok (.aload_n 0, 1) := by decide +kernel
theorem dX3_line_21 : decode cX3_line 21 = .ok (.getstatic 48, 3) := by decide +kernel
theorem dX3_line_24 : decode cX3_line 24 = .ok (.invokevirtual 30, 3) := by decide +kernel
theorem dX3_line_27 : decode cX3_line 27 = .ok (.ifCond .eq 57, 3) := by decide +kernel
theorem dX3_line_30 : decode cX3_line 30 = .ok (.aload_n 0, 1) := by decide +kernel
theorem dX3_line_31 : decode cX3_line 31 = .ok (.getstatic 51, 3) := by decide +kernel
theorem dX3_line_34 : decode cX3_line 34 = .ok (.invokevirtual 30, 3) := by decide +kernel
theorem dX3_line_37 : decode cX3_line 37 = .ok (.ifCond .ne 13, 3) := by decide +kernel
theorem dX3_line_40 : decode cX3_line 40 = .ok (.aload_n 0, 1) := by decide +kernel
theorem dX3_line_41 : decode cX3_line 41 = .ok (.getstatic 54, 3) := by decide +kernel
theorem dX3_line_44 : decode cX3_line 44 = .ok (.invokevirtual 30, 3) := by decide +kernel
theorem dX3_line_47 : decode cX3_line 47 = .ok (.ifCond .eq 37, 3) := by decide +kernel
theorem dX3_line_50 : decode cX3_line 50 = .ok (.aload_n 0, 1) := by decide +kernel
theorem dX3_line_51 : decode cX3_line 51 = .ok (.getstatic 57, 3) := by decide +kernel
theorem dX3_line_54 : decode cX3_line 54 = .ok (.invokevirtual 60, 3) := by decide +kernel
theorem dX3_line_57 : decode cX3_line 57 = .ok (.ifCond .eq 27, 3) := by decide +kernel
theorem dX3_line_60 : decode cX3_line 60 = .ok (.aload_n 0, 1) := by decide +kernel
theorem dX3_line_61 : decode cX3_line 61 = .ok (.getstatic 63, 3) := by decide +kernel
theorem dX3_line_64 : decode cX3_line 64 = .ok (.invokevirtual 60, 3) := by decide +kernel
theorem dX3_line_67 : decode cX3_line 67 = .ok (.ifCond .eq 17, 3) := by decide +kernel
theorem dX3_line_70 : decode cX3_line 70 = .ok (.aload_n 0, 1) := by decide +kernel
theorem dX3_line_71 : decode cX3_line 71 = .ok (.getstatic 66, 3) := by decide +kernel
theorem dX3_line_74 : decode cX3_line 74 = .ok (.invokevirtual 60, 3) := by decide +kernel
theorem dX3_line_77 : decode cX3_line 77 = .ok (.ifCond .eq 7, 3) := by decide +kernel
theorem dX3_line_80 : decode cX3_line 80 = .ok (.iconst 1, 1) := by decide +kernel
theorem dX3_line_81 : decode cX3_line 81 = .ok (.goto 4, 3) := by decide +kernel
theorem dX3_line_84 : decode cX3_line 84 = .ok (.iconst 0, 1) := by decide +kernel
theorem dX3_line_85 : decode cX3_line 85 = .ok (.ireturn, 1) := by decide +kernel
theorem dX3_line_86 : decode cX3_line 86 = .ok (.aload_n 0, 1) := by decide +kernel
theorem dX3_line_87 : decode cX3_line 87 = .ok (.getstatic 69, 3) := by decide +kernel
theorem dX3_line_90 : decode cX3_line 90 = .ok (.invokevirtual 30, 3) := by decide +kernel
theorem dX3_line_93 : decode cX3_line 93 = .ok (.ifCond .eq 59, 3) := by decide +kernel
theorem dX3_line_96 : decode cX3_line 96 = .ok (.aload_n 0, 1) := by decide +kernel
theorem dX3_line_97 : decode cX3_line 97 = .ok (.getstatic 45, 3) := by decide +kernel
theorem dX3_line_100 : decode cX3_line 100 = .ok (.invokevirtual 30, 3) := by decide +kernel
theorem dX3_line_103 : decode cX3_line 103 = .ok (.ifCond .eq 47, 3) := by decide +kernel
theorem dX3_line_106 : decode cX3_line 106 = .ok (.aload_n 0, 1) := by decide +kernel
theorem dX3_line_107 : decode cX3_line 107 = .ok (.getstatic 63, 3) := by decide +kernel
theorem dX3_line_110 : decode cX3_line 110 = .ok (.invokevirtual 60, 3) := by decide +kernel
theorem dX3_line_113 : decode cX3_line 113 = .ok (.ifCond .eq 37, 3) := by decide +kernel
theorem dX3_line_116 : decode cX3_line 116 = .ok (.aload_n 0, 1) := by decide +kernel
theorem dX3_line_117 : decode cX3_line 117 = .ok (.getstatic 72, 3) := by decide +kernel
theorem dX3_line_120 : decode cX3_line 120 = .ok (.invokevirtual 60, 3) := by decide +kernel
theorem dX3_line_123 : decode cX3_line 123 = .ok (.ifCond .eq 27, 3) := by decide +kernel
theorem dX3_line_126 : decode cX3_line 126 = .ok (.aload_n 0, 1) := by decide +kernel
theorem dX3_line_127 : decode cX3_line 127 = .ok (.getstatic 75, 3) := by decide +kernel
theorem dX3_line_130 : decode cX3_line 130 = .ok (.invokevirtual 60, 3) := by decide +kernel
theorem dX3_line_133 : decode cX3_line 133 = .ok (.ifCond .eq 17, 3) := by decide +kernel
theorem dX3_line_136 : decode cX3_line 136 = .ok (.aload_n 0, 1) := by decide +kernel
theorem dX3_line_137 : decode cX3_line 137 = .ok (.getstatic 78, 3) := by decide +kernel
theorem dX3_line_140 : decode cX3_line 140 = .ok (.invokevirtual 60, 3) := by decide +kernel
theorem dX3_line_143 : decode cX3_line 143 = .ok (.ifCond .eq 7, 3) := by decide +kernel
theorem dX3_line_146 : decode cX3_line 146 = .ok (.iconst 1, 1) := by decide +kernel
theorem dX3_line_147 : decode cX3_line 147 = .ok (.goto 4, 3) := by decide +kernel
theorem dX3_line_150 : decode cX3_line 150 = .ok (.iconst 0, 1) := by decide +kernel
theorem dX3_line_151 : decode cX3_line 151 = .ok (.ireturn, 1) := by decide +kernel
theorem dX3_line_152 : decode cX3_line 152 = .ok (.aload_n 0, 1) := by decide +kernel
theorem dX3_line_153 : decode cX3_line 153 = .ok (.aload_n 1, 1) := by decide +kernel
theorem dX3_line_154 : decode cX3_line 154 = .ok (.invokestatic 81, 3) := by decide +kernel
theorem dX3_line_157 : decode cX3_line 157 = .ok (.ireturn, 1) := by decide +kernel
theorem dX3_order_0 : decode cX3_order 0 = .ok (.aload_n 0, 1) := by decide +kernel
theorem dX3_order_1 : decode cX3_order 1 = .ok (.invokevirtual 9, 3) := by decide +kernel
theorem dX3_order_4 : decode cX3_order 4 = .ok (.astore_n 2, 1) := by decide +kernel
theorem dX3_order_5 : decode cX3_order 5 = .ok (.aload_n 0, 1) := by decide +kernel
theorem dX3_order_6 : decode cX3_order 6 = .ok (.getstatic 84, 3) := by decide +kernel
theorem dX3_order_9 : decode cX3_order 9 = .ok (.invokevirtual 30, 3) := by decide +kernel
theorem dX3_order_12 : decode cX3_order 12 = .ok (.ifCond .ne 13, 3) := by decide +kernel
theorem dX3_order_15 : decode cX3_order 15 = .ok (.aload_n 0, 1) := by decide +kernel
theorem dX3_order_16 : decode cX3_order 16 = .ok (.getstatic 87, 3) := by decide +kernel
theorem dX3_order_19 : decode cX3_order 19 = .ok (.invokevirtual 30, 3) := by decide +kernel
theorem dX3_order_22 : decode cX3_order 22 = .ok (.ifCond .eq 24, 3) := by decide +kernel
theorem dX3_order_25 : decode cX3_order 25 = .ok (.aload_n 1, 1) := by decide +kernel
theorem dX3_order_26 : decode cX3_order 26 = .ok (.aload_n 2, 1) := by decide +kernel
theorem dX3_order_27 : decode cX3_order 27 = .ok (.aload_n 0, 1) := by decide +kernel
theorem dX3_order_28 : decode cX3_order 28 = .ok (.getfield 34, 3) := by decide +kernel
theorem dX3_order_31 : decode cX3_order 31 = .ok (.invokevirtual 90, 3) := by decide +kernel
theorem dX3_order_34 : decode cX3_order 34 = .ok (.aload_n 0, 1) := by decide +kernel
theorem dX3_order_35 : decode cX3_order 35 = .ok (.getstatic 45, 3) := by decide +kernel
theorem dX3_order_38 : decode cX3_order 38 = .ok (.invokevirtual 30, 3) := by decide +kernel
theorem dX3_order_41 : decode cX3_order 41 = .ok (.ifCond .ne 39, 3) := by decide +kernel
theorem dX3_order_44 : decode cX3_order 44 = .ok (.iconst 0, 1) := by decide +kernel
theorem dX3_order_45 : decode cX3_order 45 = .ok (.ireturn, 1) := by decide +kernel
theorem dX3_order_46 : decode cX3_order 46 = .ok (.aload_n 0, 1) := by decide +kernel
theorem dX3_order_47 : decode cX3_order 47 = .ok (.getstatic 96, 3) := by decide +kernel
theorem dX3_order_50 : decode cX3_order 50 = .ok (.invokevirtual 30, 3) := by decide +kernel
theorem dX3_order_53 : decode cX3_order 53 = .ok (.ifCond .ne 13, 3) := by decide +kernel
theorem dX3_order_56 : decode cX3_order 56 = .ok (.aload_n 0, 1) := by decide +kernel
theorem dX3_order_57 : decode cX3_order 57 = .ok (.getstatic 99, 3) := by decide +kernel
theorem dX3_order_60 : decode cX3_order 60 = .ok (.invokevirtual 30, 3) := by decide +kernel
theorem dX3_order_63 : decode cX3_order 63 = .ok (.ifCond .eq 15, 3) := by decide +kernel
theorem dX3_order_66 : decode cX3_order 66 = .ok (.aload_n 1, 1) := by decide +kernel
theorem dX3_order_67 : decode cX3_order 67 = .ok (.aload_n 2, 1) := by decide +kernel
theorem dX3_order_68 : decode cX3_order 68 = .ok (.aload_n 0, 1) := by decide +kernel
theorem dX3_order_69 : decode cX3_order 69 = .ok (.getfield 34, 3) := by decide +kernel
theorem dX3_order_72 : decode cX3_order 72 = .ok (.invokevirtual 90, 3) := by decide +kernel
theorem dX3_order_75 : decode cX3_order 75 = .ok (.goto 5, 3) := by decide +kernel
theorem dX3_order_78 : decode cX3_order 78 = .ok (.iconst 0, 1) := by decide +kernel
theorem dX3_order_79 : decode cX3_order 79 = .ok (.ireturn, 1) := by decide +kernel
theorem dX3_order_80 : decode cX3_order 80 = .ok (.aload_n 0, 1) := by decide +kernel
theorem dX3_order_81 : decode cX3_order 81 = .ok (.getstatic 102, 3) := by decide +kernel
theorem dX3_order_84 : decode cX3_order 84 = .ok (.invokevirtual 30, 3) := by decide +kernel
theorem dX3_order_87 : decode cX3_order 87 = .ok (.ifCond .eq 12, 3) := by decide +kernel
theorem dX3_order_90 : decode cX3_order 90 = .ok (.aload_n 0, 1) := by decide +kernel
theorem dX3_order_91 : decode cX3_order 91 = .ok (.aload_n 1, 1) := by decide +kernel
theorem dX3_order_92 : decode cX3_order 92 = .ok (.iconst 0, 1) := by decide +kernel
theorem dX3_order_93 : decode cX3_order 93 = .ok (.invokestatic 105, 3) := by decide +kernel
theorem dX3_order_96 : decode cX3_order 96 = .ok (.ifCond .eq 7, 3) := by decide +kernel
theorem dX3_order_99 : decode cX3_order 99 = .ok (.iconst 1, 1) := by decide +kernel
theorem dX3_order_100 : decode cX3_order 100 = .ok (.goto 4, 3) := by decide +kernel
theorem dX3_order_103 : decode cX3_order 103 = .ok (.iconst 0, 1) := by decide +kernel
theorem dX3_order_104 : decode cX3_order 104 = .ok (.istore_n 3, 1) := by decide +kernel
theorem dX3_order_105 : decode cX3_order 105 = .ok (.aload_n 1, 1) := by decide +kernel
theorem dX3_order_106 : decode cX3_order 106 = .ok (.invokevirtual 109, 3) := by decide +kernel
theorem dX3_order_109 : decode cX3_order 109 = .ok (.iload_n 3, 1) := by decide +kernel
theorem dX3_order_110 : decode cX3_order 110 = .ok (.ireturn, 1) := by decide +kernel
theorem dX3_test_0 : decode cX3_test 0 = .ok (.aload_n 0, 1) := by decide +kernel
theorem dX3_test_1 : decode cX3_test 1 = .ok (.aload_n 1, 1) := by decide +kernel
theorem dX3_test_2 : decode cX3_test 2 = .ok (.iload_n 2, 1) := by decide +kernel
theorem dX3_test_3 : decode cX3_test 3 = .ok (.invokestatic 112, 3) := by decide +kernel
theorem dX3_test_6 : decode cX3_test 6 = .ok (.istore_n 3, 1) := by decide +kernel
theorem dX3_test_7 : decode cX3_test 7 = .ok (.iconst 0, 1) := by decide +kernel
theorem dX3_test_8 : decode cX3_test 8 = .ok (.istore 4, 2) := by decide +kernel
theorem dX3_test_10 : decode cX3_test 10 = .ok (.iload 4, 2) := by decide +kernel
theorem dX3_test_12 : decode cX3_test 12 = .ok (.sipush 400, 3) := by decide +kernel
theorem dX3_test_15 : decode cX3_test 15 = .ok (.if_icmp .ge 49, 3) := by decide +kernel
theorem dX3_test_18 : decode cX3_test 18 = .ok (.iload_n 3, 1) := by decide +kernel
theorem dX3_test_19 : decode cX3_test 19 = .ok (.ifCond .eq 45, 3) := by decide +kernel
theorem dX3_test_22 : decode cX3_test 22 = .ok (.aload_n 0, 1) := by decide +kernel
theorem dX3_test_23 : decode cX3_test 23 = .ok (.getstatic 115, 3) := by decide +kernel
theorem dX3_test_26 : decode cX3_test 26 = .ok (.invokevirtual 30, 3) := by decide +kernel
theorem dX3_test_29 : decode cX3_test 29 = .ok (.ifCond .eq 35, 3) := by decide +kernel
theorem dX3_test_32 : decode cX3_test 32 = .ok (.aload_n 0, 1) := by decide +kernel
theorem dX3_test_33 : decode cX3_test 33 = .ok (.aload_n 1, 1) := by decide +kernel
theorem dX3_test_34 : decode cX3_test 34 = .ok (.iload_n 2, 1) := by decide +kernel
theorem dX3_test_35 : decode cX3_test 35 = .ok (.invokestatic 112, 3) := by decide +kernel
theorem dX3_test_38 : decode cX3_test 38 = .ok (.ifCond .eq 18, 3) := by decide +kernel
theorem dX3_test_41 : decode cX3_test 41 = .ok (.aload_n 1, 1) := by decide +kernel
theorem dX3_test_42 : decode cX3_test 42 = .ok (.getstatic 115, 3) := by decide +kernel
theorem dX3_test_45 : decode cX3_test 45 = .ok (.iconst 0, 1) := by decide +kernel
theorem dX3_test_46 : decode cX3_test 46 = .ok (.invokevirtual 118, 3) := by decide +kernel
theorem dX3_test_49 : decode cX3_test 49 = .ok (.ifCond .eq 7, 3) := by decide +kernel
theorem dX3_test_52 : decode cX3_test 52 = .ok (.iconst 1, 1) := by decide +kernel
theorem dX3_test_53 : decode cX3_test 53 = .ok (.goto 4, 3) := by decide +kernel
theorem dX3_test_56 : decode cX3_test 56 = .ok (.iconst 0, 1) := by decide +kernel
theorem dX3_test_57 : decode cX3_test 57 = .ok (.istore_n 3, 1) := by decide +kernel
theorem dX3_test_58 : decode cX3_test 58 = .ok (.iinc 4 1, 3) := by decide +kernel
theorem dX3_test_61 : decode cX3_test 61 = .ok (.goto (-51), 3) := by decide +kernel
theorem dX3_test_64 : decode cX3_test 64 = .ok (.iload_n 3, 1) := by decide +kernel
theorem dX3_test_65 : decode cX3_test 65 = .ok (.ireturn, 1) := by decide +kernel
theorem dX3_both_0 : decode cX3_both 0 = .ok (.aload_n 0, 1) := by decide +kernel
theorem dX3_both_1 : decode cX3_both 1 = .ok (.aload_n 1, 1) := by decide +kernel
theorem dX3_both_2 : decode cX3_both 2 = .ok (.iload_n 2, 1) := by decide +kernel
theorem dX3_both_3 : decode cX3_both 3 = .ok (.invokestatic 122, 3) := by decide +kernel
theorem dX3_both_6 : decode cX3_both 6 = .ok (.istore_n 3, 1) := by decide +kernel
theorem dX3_both_7 : decode cX3_both 7 = .ok (.iconst 0, 1) := by decide +kernel
theorem dX3_both_8 : decode cX3_both 8 = .ok (.istore 4, 2) := by decide +kernel
theorem dX3_both_10 : decode cX3_both 10 = .ok (.iload 4, 2) := by decide +kernel
theorem dX3_both_12 : decode cX3_both 12 = .ok (.sipush 400, 3) := by decide +kernel
theorem dX3_both_15 : decode cX3_both 15 = .ok (.if_icmp .ge 49, 3) := by decide +kernel
theorem dX3_both_18 : decode cX3_both 18 = .ok (.iload_n 3, 1) := by decide +kernel
theorem dX3_both_19 : decode cX3_both 19 = .ok (.ifCond .eq 45, 3) := by decide +kernel
theorem dX3_both_22 : decode cX3_both 22 = .ok (.aload_n 0, 1) := by decide +kernel
theorem dX3_both_23 : decode cX3_both 23 = .ok (.getstatic 125, 3) := by decide +kernel
theorem dX3_both_26 : decode cX3_both 26 = .ok (.invokevirtual 30, 3) := by decide +kernel
theorem dX3_both_29 : decode cX3_both 29 = .ok (.ifCond .eq 35, 3) := by decide +kernel
theorem dX3_both_32 : decode cX3_both 32 = .ok (.aload_n 0, 1) := by decide +kernel
theorem dX3_both_33 : decode cX3_both 33 = .ok (.aload_n 1, 1) := by decide +kernel
theorem dX3_both_34 : decode cX3_both 34 = .ok (.iload_n 2, 1) := by decide +kernel
theorem dX3_both_35 : decode cX3_both 35 = .ok (.invokestatic 122, 3) := by decide +kernel
theorem dX3_both_38 : decode cX3_both 38 = .ok (.ifCond .eq 18, 3) := by decide +kernel
theorem dX3_both_41 : decode cX3_both 41 = .ok (.aload_n 1, 1) := by decide +kernel
theorem dX3_both_42 : decode cX3_both 42 = .ok (.getstatic 125, 3) := by decide +kernel
theorem dX3_both_45 : decode cX3_both 45 = .ok (.iconst 0, 1) := by decide +kernel
theorem dX3_both_46 : decode cX3_both 46 = .ok (.invokevirtual 118, 3) := by decide +kernel
theorem dX3_both_49 : decode cX3_both 49 = .ok (.ifCond .eq 7, 3) := by decide +kernel
theorem dX3_both_52 : decode cX3_both 52 = .ok (.iconst 1, 1) := by decide +kernel
theorem dX3_both_53 : decode cX3_both 53 = .ok (.goto 4, 3) := by decide +kernel
theorem dX3_both_56 : decode cX3_both 56 = .ok (.iconst 0, 1) := by decide +kernel
theorem dX3_both_57 : decode cX3_both 57 = .ok (.istore_n 3, 1) := by decide +kernel
theorem dX3_both_58 : decode cX3_both 58 = .ok (.iinc 4 1, 3) := by decide +kernel
theorem dX3_both_61 : decode cX3_both 61 = .ok (.goto (-51), 3) := by decide +kernel
theorem dX3_both_64 : decode cX3_both 64 = .ok (.iload_n 3, 1) := by decide +kernel
theorem dX3_both_65 : decode cX3_both 65 = .ok (.ireturn, 1) := by decide +kernel
theorem dX3_single_0 : decode cX3_single 0 = .ok (.aload_n 0, 1) := by decide +kernel
theorem dX3_single_1 : decode cX3_single 1 = .ok (.invokevirtual 9, 3) := by decide +kernel
theorem dX3_single_4 : decode cX3_single 4 = .ok (.astore_n 3, 1) := by decide +kernel
theorem dX3_single_5 : decode cX3_single 5 = .ok (.getstatic 128, 3) := by decide +kernel
theorem dX3_single_8 : decode cX3_single 8 = .ok (.aload_n 3, 1) := by decide +kernel
theorem dX3_single_9 : decode cX3_single 9 = .ok (.invokevirtual 134, 3) := by decide +kernel
theorem dX3_single_12 : decode cX3_single 12 = .ok (.iaload, 1) := by decide +kernel
theorem dX3_single_13 : decode cX3_single 13 = .ok (.tableswitch 158 1 5 #[35, 79, 122, 122, 122], 35) := by decide +kernel
theorem dX3_single_48 : decode cX3_single 48 = .ok (.iload_n 2, 1) := by decide +kernel
theorem dX3_single_49 : decode cX3_single 49 = .ok (.bipush 8, 2) := by decide +kernel
theorem dX3_single_51 : decode cX3_single 51 = .ok (.if_icmp .ge 39, 3) := by decide +kernel
theorem dX3_single_54 : decode cX3_single 54 = .ok (.aload_n 0, 1) := by decide +kernel
theorem dX3_single_55 : decode cX3_single 55 = .ok (.getstatic 138, 3) := by decide +kernel
theorem dX3_single_58 : decode cX3_single 58 = .ok (.invokevirtual 30, 3) := by decide +kernel
theorem dX3_single_61 : decode cX3_single 61 = .ok (.ifCond .eq 29, 3) := by decide +kernel
theorem dX3_single_64 : decode cX3_single 64 = .ok (.aload_n 0, 1) := by decide +kernel
theorem dX3_single_65 : decode cX3_single 65 = .ok (.aload_n 1, 1) := by decide +kernel
theorem dX3_single_66 : decode cX3_single 66 = .ok (.iload_n 2, 1) := by decide +kernel
theorem dX3_single_67 : decode cX3_single 67 = .ok (.iconst 1, 1) := by decide +kernel
theorem dX3_single_68 : decode cX3_single 68 = .ok (.iadd, 1) := by decide +kernel
theorem dX3_single_69 : decode cX3_single 69 = .ok (.invokestatic 122, 3) := by decide +kernel
theorem dX3_single_72 : decode cX3_single 72 = .ok (.ifCond .eq 18, 3) := by decide +kernel
theorem dX3_single_75 : decode cX3_single 75 = .ok (.aload_n 1, 1) := by decide +kernel
theorem dX3_single_76 : decode cX3_single 76 = .ok (.getstatic 138, 3) := by decide +kernel
theorem dX3_single_79 : decode cX3_single 79 = .ok (.iconst 0, 1) := by decide +kernel
theorem dX3_single_80 : decode cX3_single 80 = .ok (.invokevirtual 118, 3) := by decide +kernel
theorem dX3_single_83 : decode cX3_single 83 = .ok (.ifCond .eq 7, 3) := by decide +kernel
theorem dX3_single_86 : decode cX3_single 86 = .ok (.iconst 1, 1) := by decide +kernel
theorem dX3_single_87 : decode cX3_single 87 = .ok (.goto 4, 3) := by decide +kernel
theorem dX3_single_90 : decode cX3_single 90 = .ok (.iconst 0, 1) := by decide +kernel
theorem dX3_single_91 : decode cX3_single 91 = .ok (.ireturn, 1) := by decide +kernel
theorem dX3_single_92 : decode cX3_single 92 = .ok (.iload_n 2, 1) := by decide +kernel
theorem dX3_single_93 : decode cX3_single 93 = .ok (.bipush 8, 2) := by decide +kernel
theorem dX3_single_95 : decode cX3_single 95 = .ok (.if_icmp .ge 38, 3) := by decide +kernel
theorem dX3_single_98 : decode cX3_single 98 = .ok (.aload_n 0, 1) := by decide +kernel
theorem dX3_single_99 : decode cX3_single 99 = .ok (.getstatic 141, 3) := by decide +kernel
theorem dX3_single_102 : decode cX3_single 102 = .ok (.invokevirtual 30, 3) := by decide +kernel
theorem dX3_single_105 : decode cX3_single 105 = .ok (.ifCond .eq 28, 3) := by decide +kernel
theorem dX3_single_108 : decode cX3_single 108 = .ok (.aload_n 0, 1) := by decide +kernel
theorem dX3_single_109 : decode cX3_single 109 = .ok (.aload_n 1, 1) := by decide +kernel
theorem dX3_single_110 : decode cX3_single 110 = .ok (.iload_n 2, 1) := by decide +kernel
theorem dX3_single_111 : decode cX3_single 111 = .ok (.iconst 1, 1) := by decide +kernel
theorem dX3_single_112 : decode cX3_single 112 = .ok (.iadd, 1) := by decide +kernel
theorem dX3_single_113 : decode cX3_single 113 = .ok (.invokestatic 105, 3) := by decide +kernel
theorem dX3_single_116 : decode cX3_single 116 = .ok (.ifCond .eq 17, 3) := by decide +kernel
theorem dX3_single_119 : decode cX3_single 119 = .ok (.aload_n 0, 1) := by decide +kernel
theorem dX3_single_120 : decode cX3_single 120 = .ok (.getstatic 144, 3) := by decide +kernel
theorem dX3_single_123 : decode cX3_single 123 = .ok (.invokevirtual 30, 3) := by decide +kernel
theorem dX3_single_126 : decode cX3_single 126 = .ok (.ifCond .eq 7, 3) := by decide +kernel
theorem dX3_single_129 : decode cX3_single 129 = .ok (.iconst 1, 1) := by decide +kernel
theorem dX3_single_130 : decode cX3_single 130 = .ok (.goto 4, 3) := by decide +kernel
theorem dX3_single_133 : decode cX3_single 133 = .ok (.iconst 0, 1) := by decide +kernel
theorem dX3_single_134 : decode cX3_single 134 = .ok (.ireturn, 1) := by decide +kernel
theorem dX3_single_135 : decode cX3_single 135 = .ok (.aload_n 0, 1) := by decide +kernel
theorem dX3_single_136 : decode cX3_single 136 = .ok (.aload_n 3, 1) := by decide +kernel
theorem dX3_single_137 : decode cX3_single 137 = .ok (.invokevirtual 30, 3) := by decide +kernel
theorem dX3_single_140 : decode cX3_single 140 = .ok (.ifCond .eq 29, 3) := by decide +kernel
theorem dX3_single_143 : decode cX3_single 143 = .ok (.aload_n 1, 1) := by decide +kernel
theorem dX3_single_144 : decode cX3_single 144 = .ok (.aload_n 3, 1) := by decide +kernel
theorem dX3_single_145 : decode cX3_single 145 = .ok (.aload_n 0, 1) := by decide +kernel
theorem dX3_single_146 : decode cX3_single 146 = .ok (.getfield 34, 3) := by decide +kernel
theorem dX3_single_149 : decode cX3_single 149 = .ok (.invokevirtual 118, 3) := by decide +kernel
theorem dX3_single_152 : decode cX3_single 152 = .ok (.ifCond .eq 17, 3) := by decide +kernel
theorem dX3_single_155 : decode cX3_single 155 = .ok (.aload_n 0, 1) := by decide +kernel
theorem dX3_single_156 : decode cX3_single 156 = .ok (.getstatic 45, 3) := by decide +kernel
theorem dX3_single_159 : decode cX3_single 159 = .ok (.invokevirtual 30, 3) := by decide +kernel
theorem dX3_single_162 : decode cX3_single 162 = .ok (.ifCond .eq 7, 3) := by decide +kernel
theorem dX3_single_165 : decode cX3_single 165 = .ok (.iconst 1, 1) := by decide +kernel
theorem dX3_single_166 : decode cX3_single 166 = .ok (.goto 4, 3) := by decide +kernel
theorem dX3_single_169 : decode cX3_single 169 = .ok (.iconst 0, 1) := by decide +kernel
theorem dX3_single_170 : decode cX3_single 170 = .ok (.ireturn, 1) := by decide +kernel
theorem dX3_single_171 : decode cX3_single 171 = .ok (.aload_n 0, 1) := by decide +kernel
theorem dX3_single_172 : decode cX3_single 172 = .ok (.aload_n 1, 1) := by decide +kernel
theorem dX3_single_173 : decode cX3_single 173 = .ok (.iload_n 2, 1) := by decide +kernel
theorem dX3_single_174 : decode cX3_single 174 = .ok (.invokestatic 147, 3) := by decide +kernel
theorem dX3_single_177 : decode cX3_single 177 = .ok (.ireturn, 1) := by decide +kernel
theorem dX3_comparison_0 : decode cX3_comparison 0 = .ok (.aload_n 0, 1) := by decide +kernel
theorem dX3_comparison_1 : decode cX3_comparison 1 = .ok (.aload_n 1, 1) := by decide +kernel
theorem dX3_comparison_2 : decode cX3_comparison 2 = .ok (.iload_n 2, 1) := by decide +kernel
theorem dX3_comparison_3 : decode cX3_comparison 3 = .ok (.invokestatic 150, 3) := by decide +kernel
theorem dX3_comparison_6 : decode cX3_comparison 6 = .ok (.ifCond .ne 5, 3) := by decide +kernel
theorem dX3_comparison_9 : decode cX3_comparison 9 = .ok (.iconst 0, 1) := by decide +kernel
theorem dX3_comparison_10 : decode cX3_comparison 10 = .ok (.ireturn, 1) := by decide +kernel
theorem dX3_comparison_11 : decode cX3_comparison 11 = .ok (.aload_n 0, 1) := by decide +kernel
theorem dX3_comparison_12 : decode cX3_comparison 12 = .ok (.invokevirtual 9, 3) := by decide +kernel
theorem dX3_comparison_15 : decode cX3_comparison 15 = .ok (.astore_n 3, 1) := by decide +kernel
theorem dX3_comparison_16 : decode cX3_comparison 16 = .ok (.aload_n 0, 1) := by decide +kernel
theorem dX3_comparison_17 : decode cX3_comparison 17 = .ok (.getstatic 153, 3) := by decide +kernel
theorem dX3_comparison_20 : decode cX3_comparison 20 = .ok (.invokevirtual 30, 3) := by decide +kernel
theorem dX3_comparison_23 : decode cX3_comparison 23 = .ok (.ifCond .ne 43, 3) := by decide +kernel
theorem dX3_comparison_26 : decode cX3_comparison 26 = .ok (.aload_n 0, 1) := by decide +kernel
theorem dX3_comparison_27 : decode cX3_comparison 27 = .ok (.getstatic 156, 3) := by decide +kernel
theorem dX3_comparison_30 : decode cX3_comparison 30 = .ok (.invokevirtual 30, 3) := by decide +kernel
theorem dX3_comparison_33 : decode cX3_comparison 33 = .ok (.ifCond .ne 33, 3) := by decide +kernel
theorem dX3_comparison_36 : decode cX3_comparison 36 = .ok (.aload_n 0, 1) := by decide +kernel
theorem dX3_comparison_37 : decode cX3_comparison 37 = .ok (.getstatic 159, 3) := by decide +kernel
theorem dX3_comparison_40 : decode cX3_comparison 40 = .ok (.invokevirtual 30, 3) := by decide +kernel
theorem dX3_comparison_43 : decode cX3_comparison 43 = .ok (.ifCond .ne 23, 3) := by decide +kernel
theorem dX3_comparison_46 : decode cX3_comparison 46 = .ok (.aload_n 0, 1) := by decide +kernel
theorem dX3_comparison_47 : decode cX3_comparison 47 = .ok (.getstatic 162, 3) := by decide +kernel
theorem dX3_comparison_50 : decode cX3_comparison 50 = .ok (.invokevirtual 30, 3) := by decide +kernel
theorem dX3_comparison_53 : decode cX3_comparison 53 = .ok (.ifCond .ne 13, 3) := by decide +kernel
theorem dX3_comparison_56 : decode cX3_comparison 56 = .ok (.aload_n 0, 1) := by decide +kernel
theorem dX3_comparison_57 : decode cX3_comparison 57 = .ok (.getstatic 165, 3) := by decide +kernel
theorem dX3_comparison_60 : decode cX3_comparison 60 = .ok (.invokevirtual 30, 3) := by decide +kernel
theorem dX3_comparison_63 : decode cX3_comparison 63 = .ok (.ifCond .eq 7, 3) := by decide +kernel
theorem dX3_comparison_66 : decode cX3_comparison 66 = .ok (.iconst 1, 1) := by decide +kernel
theorem dX3_comparison_67 : decode cX3_comparison 67 = .ok (.goto 4, 3) := by decide +kernel
theorem dX3_comparison_70 : decode cX3_comparison 70 = .ok (.iconst 0, 1) := by decide +kernel
theorem dX3_comparison_71 : decode cX3_comparison 71 = .ok (.istore 4, 2) := by decide +kernel
theorem dX3_comparison_73 : decode cX3_comparison 73 = .ok (.iload 4, 2) := by decide +kernel
theorem dX3_comparison_75 : decode cX3_comparison 75 = .ok (.ifCond .eq 25, 3) := by decide +kernel
theorem dX3_comparison_78 : decode cX3_comparison 78 = .ok (.aload_n 0, 1) := by decide +kernel
theorem dX3_comparison_79 : decode cX3_comparison 79 = .ok (.aload_n 1, 1) := by decide +kernel
theorem dX3_comparison_80 : decode cX3_comparison 80 = .ok (.iload_n 2, 1) := by decide +kernel
theorem dX3_comparison_81 : decode cX3_comparison 81 = .ok (.invokestatic 150, 3) := by decide +kernel
theorem dX3_comparison_84 : decode cX3_comparison 84 = .ok (.ifCond .eq 16, 3) := by decide +kernel
theorem dX3_comparison_87 : decode cX3_comparison 87 = .ok (.aload_n 1, 1) := by decide +kernel
theorem dX3_comparison_88 : decode cX3_comparison 88 = .ok (.aload_n 3, 1) := by decide +kernel
theorem dX3_comparison_89 : decode cX3_comparison 89 = .ok (.iconst 0, 1) := by decide +kernel
theorem dX3_comparison_90 : decode cX3_comparison 90 = .ok (.invokevirtual 118, 3) := by decide +kernel
theorem dX3_comparison_93 : decode cX3_comparison 93 = .ok (.ifCond .eq 7, 3) := by decide +kernel
theorem dX3_comparison_96 : decode cX3_comparison 96 = .ok (.iconst 1, 1) := by decide +kernel
theorem dX3_comparison_97 : decode cX3_comparison 97 = .ok (.goto 4, 3) := by decide +kernel
theorem dX3_comparison_100 : decode cX3_comparison 100 = .ok (.iconst 0, 1) := by decide +kernel
theorem dX3_comparison_101 : decode cX3_comparison 101 = .ok (.ireturn, 1) := by decide +kernel
theorem dX3_sum_0 : decode cX3_sum 0 = .ok (.aload_n 0, 1) := by decide +kernel
theorem dX3_sum_1 : decode cX3_sum 1 = .ok (.aload_n 1, 1) := by decide +kernel
theorem dX3_sum_2 : decode cX3_sum 2 = .ok (.iload_n 2, 1) := by decide +kernel
theorem dX3_sum_3 : decode cX3_sum 3 = .ok (.invokestatic 168, 3) := by decide +kernel
theorem dX3_sum_6 : decode cX3_sum 6 = .ok (.istore_n 3, 1) := by decide +kernel
theorem dX3_sum_7 : decode cX3_sum 7 = .ok (.aload_n 0, 1) := by decide +kernel
theorem dX3_sum_8 : decode cX3_sum 8 = .ok (.invokevirtual 9, 3) := by decide +kernel
theorem dX3_sum_11 : decode cX3_sum 11 = .ok (.astore 4, 2) := by decide +kernel
theorem dX3_sum_13 : decode cX3_sum 13 = .ok (.iconst 0, 1) := by decide +kernel
theorem dX3_sum_14 : decode cX3_sum 14 = .ok (.istore 5, 2) := by decide +kernel
theorem dX3_sum_16 : decode cX3_sum 16 = .ok (.iload 5, 2) := by decide +kernel
theorem dX3_sum_18 : decode cX3_sum 18 = .ok (.sipush 400, 3) := by decide +kernel
theorem dX3_sum_21 : decode cX3_sum 21 = .ok (.if_icmp .ge 64, 3) := by decide +kernel
theorem dX3_sum_24 : decode cX3_sum 24 = .ok (.iload_n 3, 1) := by decide +kernel
theorem dX3_sum_25 : decode cX3_sum 25 = .ok (.ifCond .eq 60, 3) := by decide +kernel
theorem dX3_sum_28 : decode cX3_sum 28 = .ok (.aload_n 0, 1) := by decide +kernel
theorem dX3_sum_29 : decode cX3_sum 29 = .ok (.getstatic 171, 3) := by decide +kernel
theorem dX3_sum_32 : decode cX3_sum 32 = .ok (.invokevirtual 30, 3) := by decide +kernel
theorem dX3_sum_35 : decode cX3_sum 35 = .ok (.ifCond .ne 13, 3) := by decide +kernel
theorem dX3_sum_38 : decode cX3_sum 38 = .ok (.aload_n 0, 1) := by decide +kernel
theorem dX3_sum_39 : decode cX3_sum 39 = .ok (.getstatic 174, 3) := by decide +kernel
theorem dX3_sum_42 : decode cX3_sum 42 = .ok (.invokevirtual 30, 3) := by decide +kernel
theorem dX3_sum_45 : decode cX3_sum 45 = .ok (.ifCond .eq 40, 3) := by decide +kernel
theorem dX3_sum_48 : decode cX3_sum 48 = .ok (.aload_n 0, 1) := by decide +kernel
theorem dX3_sum_49 : decode cX3_sum 49 = .ok (.aload_n 1, 1) := by decide +kernel
theorem dX3_sum_50 : decode cX3_sum 50 = .ok (.iload_n 2, 1) := by decide +kernel
theorem dX3_sum_51 : decode cX3_sum 51 = .ok (.invokestatic 168, 3) := by decide +kernel
theorem dX3_sum_54 : decode cX3_sum 54 = .ok (.ifCond .eq 17, 3) := by decide +kernel
theorem dX3_sum_57 : decode cX3_sum 57 = .ok (.aload_n 1, 1) := by decide +kernel
theorem dX3_sum_58 : decode cX3_sum 58 = .ok (.aload 4, 2) := by decide +kernel
theorem dX3_sum_60 : decode cX3_sum 60 = .ok (.iconst 0, 1) := by decide +kernel
theorem dX3_sum_61 : decode cX3_sum 61 = .ok (.invokevirtual 118, 3) := by decide +kernel
theorem dX3_sum_64 : decode cX3_sum 64 = .ok (.ifCond .eq 7, 3) := by decide +kernel
theorem dX3_sum_67 : decode cX3_sum 67 = .ok (.iconst 1, 1) := by decide +kernel
theorem dX3_sum_68 : decode cX3_sum 68 = .ok (.goto 4, 3) := by decide +kernel
theorem dX3_sum_71 : decode cX3_sum 71 = .ok (.iconst 0, 1) := by decide +kernel
theorem dX3_sum_72 : decode cX3_sum 72 = .ok (.istore_n 3, 1) := by decide +kernel
theorem dX3_sum_73 : decode cX3_sum 73 = .ok (.aload_n 0, 1) := by decide +kernel
theorem dX3_sum_74 : decode cX3_sum 74 = .ok (.invokevirtual 9, 3) := by decide +kernel
theorem dX3_sum_77 : decode cX3_sum 77 = .ok (.astore 4, 2) := by decide +kernel
theorem dX3_sum_79 : decode cX3_sum 79 = .ok (.iinc 5 1, 3) := by decide +kernel
theorem dX3_sum_82 : decode cX3_sum 82 = .ok (.goto (-66), 3) := by decide +kernel
theorem dX3_sum_85 : decode cX3_sum 85 = .ok (.iload_n 3, 1) := by decide +kernel
theorem dX3_sum_86 : decode cX3_sum 86 = .ok (.ireturn, 1) := by decide +kernel
theorem dX3_product_0 : decode cX3_product 0 = .ok (.aload_n 0, 1) := by decide +kernel
theorem dX3_product_1 : decode cX3_product 1 = .ok (.aload_n 1, 1) := by decide +kernel
theorem dX3_product_2 : decode cX3_product 2 = .ok (.iload_n 2, 1) := by decide +kernel
theorem dX3_product_3 : decode cX3_product 3 = .ok (.invokestatic 177, 3) := by decide +kernel
theorem dX3_product_6 : decode cX3_product 6 = .ok (.istore_n 3, 1) := by decide +kernel
theorem dX3_product_7 : decode cX3_product 7 = .ok (.aload_n 0, 1) := by decide +kernel
theorem dX3_product_8 : decode cX3_product 8 = .ok (.invokevirtual 9, 3) := by decide +kernel
theorem dX3_product_11 : decode cX3_product 11 = .ok (.astore 4, 2) := by decide +kernel
theorem dX3_product_13 : decode cX3_product 13 = .ok (.iconst 0, 1) := by decide +kernel
theorem dX3_product_14 : decode cX3_product 14 = .ok (.istore 5, 2) := by decide +kernel
theorem dX3_product_16 : decode cX3_product 16 = .ok (.iload 5, 2) := by decide +kernel
theorem dX3_product_18 : decode cX3_product 18 = .ok (.sipush 400, 3) := by decide +kernel
theorem dX3_product_21 : decode cX3_product 21 = .ok (.if_icmp .ge 64, 3) := by decide +kernel
theorem dX3_product_24 : decode cX3_product 24 = .ok (.iload_n 3, 1) := by decide +kernel
theorem dX3_product_25 : decode cX3_product 25 = .ok (.ifCond .eq 60, 3) := by decide +kernel
theorem dX3_product_28 : decode cX3_product 28 = .ok (.aload_n 0, 1) := by decide +kernel
theorem dX3_product_29 : decode cX3_product 29 = .ok (.getstatic 180, 3) := by decide +kernel
theorem dX3_product_32 : decode cX3_product 32 = .ok (.invokevirtual 30, 3) := by decide +kernel
theorem dX3_product_35 : decode cX3_product 35 = .ok (.ifCond .ne 13, 3) := by decide +kernel
theorem dX3_product_38 : decode cX3_product 38 = .ok (.aload_n 0, 1) := by decide +kernel
theorem dX3_product_39 : decode cX3_product 39 = .ok (.getstatic 183, 3) := by decide +kernel
theorem dX3_product_42 : decode cX3_product 42 = .ok (.invokevirtual 30, 3) := by decide +kernel
theorem dX3_product_45 : decode cX3_product 45 = .ok (.ifCond .eq 40, 3) := by decide +kernel
theorem dX3_product_48 : decode cX3_product 48 = .ok (.aload_n 0, 1) := by decide +kernel
theorem dX3_product_49 : decode cX3_product 49 = .ok (.aload_n 1, 1) := by decide +kernel
theorem dX3_product_50 : decode cX3_product 50 = .ok (.iload_n 2, 1) := by decide +kernel
theorem dX3_product_51 : decode cX3_product 51 = .ok (.invokestatic 177, 3) := by decide +kernel
theorem dX3_product_54 : decode cX3_product 54 = .ok (.ifCond .eq 17, 3) := by decide +kernel
theorem dX3_product_57 : decode cX3_product 57 = .ok (.aload_n 1, 1) := by decide +kernel
theorem dX3_product_58 : decode cX3_product 58 = .ok (.aload 4, 2) := by decide +kernel
theorem dX3_product_60 : decode cX3_product 60 = .ok (.iconst 0, 1) := by decide +kernel
theorem dX3_product_61 : decode cX3_product 61 = .ok (.invokevirtual 118, 3) := by decide +kernel
theorem dX3_product_64 : decode cX3_product 64 = .ok (.ifCond .eq 7, 3) := by decide +kernel
theorem dX3_product_67 : decode cX3_product 67 = .ok (.iconst 1, 1) := by decide +kernel
theorem dX3_product_68 : decode cX3_product 68 = .ok (.goto 4, 3) := by decide +kernel
theorem dX3_product_71 : decode cX3_product 71 = .ok (.iconst 0, 1) := by decide +kernel
theorem dX3_product_72 : decode cX3_product 72 = .ok (.istore_n 3, 1) := by decide +kernel
theorem dX3_product_73 : decode cX3_product 73 = .ok (.aload_n 0, 1) := by decide +kernel
theorem dX3_product_74 : decode cX3_product 74 = .ok (.invokevirtual 9, 3) := by decide +kernel
theorem dX3_product_77 : decode cX3_product 77 = .ok (.astore 4, 2) := by decide +kernel
theorem dX3_product_79 : decode cX3_product 79 = .ok (.iinc 5 1, 3) := by decide +kernel
theorem dX3_product_82 : decode cX3_product 82 = .ok (.goto (-66), 3) := by decide +kernel
theorem dX3_product_85 : decode cX3_product 85 = .ok (.iload_n 3, 1) := by decide +kernel
theorem dX3_product_86 : decode cX3_product 86 = .ok (.ireturn, 1) := by decide +kernel
theorem dX3_value_0 : decode cX3_value 0 = .ok (.aload_n 0, 1) := by decide +kernel
theorem dX3_value_1 : decode cX3_value 1 = .ok (.invokevirtual 9, 3) := by decide +kernel
theorem dX3_value_4 : decode cX3_value 4 = .ok (.astore_n 3, 1) := by decide +kernel
theorem dX3_value_5 : decode cX3_value 5 = .ok (.getstatic 128, 3) := by decide +kernel
theorem dX3_value_8 : decode cX3_value 8 = .ok (.aload_n 3, 1) := by decide +kernel
theorem dX3_value_9 : decode cX3_value 9 = .ok (.invokevirtual 134, 3) := by decide +kernel
theorem dX3_value_12 : decode cX3_value 12 = .ok (.iaload, 1) := by decide +kernel
theorem dX3_value_13 : decode cX3_value 13 = .ok (.tableswitch 311 6 18 #[67, 67, 67, 67, 67, 67, 67, 67, 93, 143, 187, 230, 230], 67) := by decide +kernel
theorem dX3_value_80 : decode cX3_value 80 = .ok (.aload_n 1, 1) := by decide +kernel
theorem dX3_value_81 : decode cX3_value 81 = .ok (.aload_n 3, 1) := by decide +kernel
theorem dX3_value_82 : decode cX3_value 82 = .ok (.aload_n 0, 1) := by decide +kernel
theorem dX3_value_83 : decode cX3_value 83 = .ok (.getfield 34, 3) := by decide +kernel
theorem dX3_value_86 : decode cX3_value 86 = .ok (.invokevirtual 118, 3) := by decide +kernel
theorem dX3_value_89 : decode cX3_value 89 = .ok (.ifCond .eq 15, 3) := by decide +kernel
theorem dX3_value_92 : decode cX3_value 92 = .ok (.aload_n 0, 1) := by decide +kernel
theorem dX3_value_93 : decode cX3_value 93 = .ok (.aload_n 3, 1) := by decide +kernel
theorem dX3_value_94 : decode cX3_value 94 = .ok (.invokevirtual 30, 3) := by decide +kernel
theorem dX3_value_97 : decode cX3_value 97 = .ok (.ifCond .eq 7, 3) := by decide +kernel
theorem dX3_value_100 : decode cX3_value 100 = .ok (.iconst 1, 1) := by decide +kernel
theorem dX3_value_101 : decode cX3_value 101 = .ok (.goto 4, 3) := by decide +kernel
theorem dX3_value_104 : decode cX3_value 104 = .ok (.iconst 0, 1) := by decide +kernel
theorem dX3_value_105 : decode cX3_value 105 = .ok (.ireturn, 1) := by decide +kernel
theorem dX3_value_106 : decode cX3_value 106 = .ok (.aload_n 0, 1) := by decide +kernel
theorem dX3_value_107 : decode cX3_value 107 = .ok (.getstatic 57, 3) := by decide +kernel
theorem dX3_value_110 : decode cX3_value 110 = .ok (.invokevirtual 30, 3) := by decide +kernel
theorem dX3_value_113 : decode cX3_value 113 = .ok (.ifCond .eq 41, 3) := by decide +kernel
theorem dX3_value_116 : decode cX3_value 116 = .ok (.aload_n 0, 1) := by decide +kernel
theorem dX3_value_117 : decode cX3_value 117 = .ok (.getstatic 186, 3) := by decide +kernel
theorem dX3_value_120 : decode cX3_value 120 = .ok (.invokevirtual 30, 3) := by decide +kernel
theorem dX3_value_123 : decode cX3_value 123 = .ok (.ifCond .eq 31, 3) := by decide +kernel
theorem dX3_value_126 : decode cX3_value 126 = .ok (.aload_n 1, 1) := by decide +kernel
theorem dX3_value_127 : decode cX3_value 127 = .ok (.getstatic 57, 3) := by decide +kernel
theorem dX3_value_130 : decode cX3_value 130 = .ok (.aload_n 0, 1) := by decide +kernel
theorem dX3_value_131 : decode cX3_value 131 = .ok (.getfield 34, 3) := by decide +kernel
theorem dX3_value_134 : decode cX3_value 134 = .ok (.invokevirtual 118, 3) := by decide +kernel
theorem dX3_value_137 : decode cX3_value 137 = .ok (.ifCond .eq 17, 3) := by decide +kernel
theorem dX3_value_140 : decode cX3_value 140 = .ok (.aload_n 0, 1) := by decide +kernel
theorem dX3_value_141 : decode cX3_value 141 = .ok (.getstatic 45, 3) := by decide +kernel
theorem dX3_value_144 : decode cX3_value 144 = .ok (.invokevirtual 30, 3) := by decide +kernel
theorem dX3_value_147 : decode cX3_value 147 = .ok (.ifCond .eq 7, 3) := by decide +kernel
theorem dX3_value_150 : decode cX3_value 150 = .ok (.iconst 1, 1) := by decide +kernel
theorem dX3_value_151 : decode cX3_value 151 = .ok (.goto 4, 3) := by decide +kernel
theorem dX3_value_154 : decode cX3_value 154 = .ok (.iconst 0, 1) := by decide +kernel
theorem dX3_value_155 : decode cX3_value 155 = .ok (.ireturn, 1) := by decide +kernel
theorem dX3_value_156 : decode cX3_value 156 = .ok (.iload_n 2, 1) := by decide +kernel
theorem dX3_value_157 : decode cX3_value 157 = .ok (.bipush 8, 2) := by decide +kernel
theorem dX3_value_159 : decode cX3_value 159 = .ok (.if_icmp .ge 39, 3) := by decide +kernel
theorem dX3_value_162 : decode cX3_value 162 = .ok (.aload_n 0, 1) := by decide +kernel
theorem dX3_value_163 : decode cX3_value 163 = .ok (.getstatic 174, 3) := by decide +kernel
theorem dX3_value_166 : decode cX3_value 166 = .ok (.invokevirtual 30, 3) := by decide +kernel
theorem dX3_value_169 : decode cX3_value 169 = .ok (.ifCond .eq 29, 3) := by decide +kernel
theorem dX3_value_172 : decode cX3_value 172 = .ok (.aload_n 0, 1) := by decide +kernel
theorem dX3_value_173 : decode cX3_value 173 = .ok (.aload_n 1, 1) := by decide +kernel
theorem dX3_value_174 : decode cX3_value 174 = .ok (.iload_n 2, 1) := by decide +kernel
theorem dX3_value_175 : decode cX3_value 175 = .ok (.iconst 1, 1) := by decide +kernel
theorem dX3_value_176 : decode cX3_value 176 = .ok (.iadd, 1) := by decide +kernel
theorem dX3_value_177 : decode cX3_value 177 = .ok (.invokestatic 177, 3) := by decide +kernel
theorem dX3_value_180 : decode cX3_value 180 = .ok (.ifCond .eq 18, 3) := by decide +kernel
theorem dX3_value_183 : decode cX3_value 183 = .ok (.aload_n 1, 1) := by decide +kernel
theorem dX3_value_184 : decode cX3_value 184 = .ok (.getstatic 189, 3) := by decide +kernel
theorem dX3_value_187 : decode cX3_value 187 = .ok (.iconst 0, 1) := by decide +kernel
theorem dX3_value_188 : decode cX3_value 188 = .ok (.invokevirtual 118, 3) := by decide +kernel
theorem dX3_value_191 : decode cX3_value 191 = .ok (.ifCond .eq 7, 3) := by decide +kernel
theorem dX3_value_194 : decode cX3_value 194 = .ok (.iconst 1, 1) := by decide +kernel
theorem dX3_value_195 : decode cX3_value 195 = .ok (.goto 4, 3) := by decide +kernel
theorem dX3_value_198 : decode cX3_value 198 = .ok (.iconst 0, 1) := by decide +kernel
theorem dX3_value_199 : decode cX3_value 199 = .ok (.ireturn, 1) := by decide +kernel
theorem dX3_value_200 : decode cX3_value 200 = .ok (.iload_n 2, 1) := by decide +kernel
theorem dX3_value_201 : decode cX3_value 201 = .ok (.bipush 8, 2) := by decide +kernel
theorem dX3_value_203 : decode cX3_value 203 = .ok (.if_icmp .ge 38, 3) := by decide +kernel
theorem dX3_value_206 : decode cX3_value 206 = .ok (.aload_n 0, 1) := by decide +kernel
theorem dX3_value_207 : decode cX3_value 207 = .ok (.getstatic 192, 3) := by decide +kernel
theorem dX3_value_210 : decode cX3_value 210 = .ok (.invokevirtual 30, 3) := by decide +kernel
theorem dX3_value_213 : decode cX3_value 213 = .ok (.ifCond .eq 28, 3) := by decide +kernel
theorem dX3_value_216 : decode cX3_value 216 = .ok (.aload_n 0, 1) := by decide +kernel
theorem dX3_value_217 : decode cX3_value 217 = .ok (.aload_n 1, 1) := by decide +kernel
theorem dX3_value_218 : decode cX3_value 218 = .ok (.iload_n 2, 1) := by decide +kernel
theorem dX3_value_219 : decode cX3_value 219 = .ok (.iconst 1, 1) := by decide +kernel
theorem dX3_value_220 : decode cX3_value 220 = .ok (.iadd, 1) := by decide +kernel
theorem dX3_value_221 : decode cX3_value 221 = .ok (.invokestatic 150, 3) := by decide +kernel
theorem dX3_value_224 : decode cX3_value 224 = .ok (.ifCond .eq 17, 3) := by decide +kernel
theorem dX3_value_227 : decode cX3_value 227 = .ok (.aload_n 0, 1) := by decide +kernel
theorem dX3_value_228 : decode cX3_value 228 = .ok (.getstatic 195, 3) := by decide +kernel
theorem dX3_value_231 : decode cX3_value 231 = .ok (.invokevirtual 30, 3) := by decide +kernel
theorem dX3_value_234 : decode cX3_value 234 = .ok (.ifCond .eq 7, 3) := by decide +kernel
theorem dX3_value_237 : decode cX3_value 237 = .ok (.iconst 1, 1) := by decide +kernel
theorem dX3_value_238 : decode cX3_value 238 = .ok (.goto 4, 3) := by decide +kernel
theorem dX3_value_241 : decode cX3_value 241 = .ok (.iconst 0, 1) := by decide +kernel
theorem dX3_value_242 : decode cX3_value 242 = .ok (.ireturn, 1) := by decide +kernel
theorem dX3_value_243 : decode cX3_value 243 = .ok (.aload_n 0, 1) := by decide +kernel
theorem dX3_value_244 : decode cX3_value 244 = .ok (.aload_n 3, 1) := by decide +kernel
theorem dX3_value_245 : decode cX3_value 245 = .ok (.invokevirtual 30, 3) := by decide +kernel
theorem dX3_value_248 : decode cX3_value 248 = .ok (.ifCond .eq 74, 3) := by decide +kernel
theorem dX3_value_251 : decode cX3_value 251 = .ok (.iload_n 2, 1) := by decide +kernel
theorem dX3_value_252 : decode cX3_value 252 = .ok (.bipush 8, 2) := by decide +kernel
theorem dX3_value_254 : decode cX3_value 254 = .ok (.if_icmp .ge 68, 3) := by decide +kernel
theorem dX3_value_257 : decode cX3_value 257 = .ok (.aload_n 0, 1) := by decide +kernel
theorem dX3_value_258 : decode cX3_value 258 = .ok (.getstatic 192, 3) := by decide +kernel
theorem dX3_value_261 : decode cX3_value 261 = .ok (.invokevirtual 30, 3) := by decide +kernel
theorem dX3_value_264 : decode cX3_value 264 = .ok (.ifCond .eq 58, 3) := by decide +kernel
theorem dX3_value_267 : decode cX3_value 267 = .ok (.aload_n 0, 1) := by decide +kernel
theorem dX3_value_268 : decode cX3_value 268 = .ok (.aload_n 1, 1) := by decide +kernel
theorem dX3_value_269 : decode cX3_value 269 = .ok (.iload_n 2, 1) := by decide +kernel
theorem dX3_value_270 : decode cX3_value 270 = .ok (.iconst 1, 1) := by decide +kernel
theorem dX3_value_271 : decode cX3_value 271 = .ok (.iadd, 1) := by decide +kernel
theorem dX3_value_272 : decode cX3_value 272 = .ok (.invokestatic 150, 3) := by decide +kernel
theorem dX3_value_275 : decode cX3_value 275 = .ok (.ifCond .eq 47, 3) := by decide +kernel
theorem dX3_value_278 : decode cX3_value 278 = .ok (.aload_n 0, 1) := by decide +kernel
theorem dX3_value_279 : decode cX3_value 279 = .ok (.getstatic 198, 3) := by decide +kernel
theorem dX3_value_282 : decode cX3_value 282 = .ok (.invokevirtual 30, 3) := by decide +kernel
theorem dX3_value_285 : decode cX3_value 285 = .ok (.ifCond .eq 37, 3) := by decide +kernel
theorem dX3_value_288 : decode cX3_value 288 = .ok (.aload_n 0, 1) := by decide +kernel
theorem dX3_value_289 : decode cX3_value 289 = .ok (.aload_n 1, 1) := by decide +kernel
theorem dX3_value_290 : decode cX3_value 290 = .ok (.iload_n 2, 1) := by decide +kernel
theorem dX3_value_291 : decode cX3_value 291 = .ok (.iconst 1, 1) := by decide +kernel
theorem dX3_value_292 : decode cX3_value 292 = .ok (.iadd, 1) := by decide +kernel
theorem dX3_value_293 : decode cX3_value 293 = .ok (.invokestatic 150, 3) := by decide +kernel
theorem dX3_value_296 : decode cX3_value 296 = .ok (.ifCond .eq 26, 3) := by decide +kernel
theorem dX3_value_299 : decode cX3_value 299 = .ok (.aload_n 0, 1) := by decide +kernel
theorem dX3_value_300 : decode cX3_value 300 = .ok (.getstatic 195, 3) := by decide +kernel
theorem dX3_value_303 : decode cX3_value 303 = .ok (.invokevirtual 30, 3) := by decide +kernel
theorem dX3_value_306 : decode cX3_value 306 = .ok (.ifCond .eq 16, 3) := by decide +kernel
theorem dX3_value_309 : decode cX3_value 309 = .ok (.aload_n 1, 1) := by decide +kernel
theorem dX3_value_310 : decode cX3_value 310 = .ok (.aload_n 3, 1) := by decide +kernel
theorem dX3_value_311 : decode cX3_value 311 = .ok (.iconst 0, 1) := by decide +kernel
theorem dX3_value_312 : decode cX3_value 312 = .ok (.invokevirtual 118, 3) := by decide +kernel
theorem dX3_value_315 : decode cX3_value 315 = .ok (.ifCond .eq 7, 3) := by decide +kernel
theorem dX3_value_318 : decode cX3_value 318 = .ok (.iconst 1, 1) := by decide +kernel
theorem dX3_value_319 : decode cX3_value 319 = .ok (.goto 4, 3) := by decide +kernel
theorem dX3_value_322 : decode cX3_value 322 = .ok (.iconst 0, 1) := by decide +kernel
theorem dX3_value_323 : decode cX3_value 323 = .ok (.ireturn, 1) := by decide +kernel
theorem dX3_value_324 : decode cX3_value 324 = .ok (.iconst 0, 1) := by decide +kernel
theorem dX3_value_325 : decode cX3_value 325 = .ok (.ireturn, 1) := by decide +kernel
theorem dX4_init_0 : decode cX4_init 0 = .ok (.aload_n 0, 1) := by decide +kernel
theorem dX4_init_1 : decode cX4_init 1 = .ok (.invokespecial 3, 3) := by decide +kernel
theorem dX4_init_4 : decode cX4_init 4 = .ok (.aload_n 0, 1) := by decide +kernel
theorem dX4_init_5 : decode cX4_init 5 = .ok (.bipush 10, 2) := by decide +kernel
theorem dX4_init_7 : decode cX4_init 7 = .ok (.newarray .long, 2) := by decide +kernel
theorem dX4_init_9 : decode cX4_init 9 = .ok (.putfield 9, 3) := by decide +kernel
theorem dX4_init_12 : decode cX4_init 12 = .ok (.aload_n 0, 1) := by decide +kernel
theorem dX4_init_13 : decode cX4_init 13 = .ok (.bipush 10, 2) := by decide +kernel
theorem dX4_init_15 : decode cX4_init 15 = .ok (.newarray .int, 2) := by decide +kernel
theorem dX4_init_17 : decode cX4_init 17 = .ok (.putfield 15, 3) := by decide +kernel
theorem dX4_init_20 : decode cX4_init 20 = .ok (.aload_n 0, 1) := by decide +kernel
theorem dX4_init_21 : decode cX4_init 21 = .ok (.bipush 10, 2) := by decide +kernel
theorem dX4_init_23 : decode cX4_init 23 = .ok (.newarray .int, 2) := by decide +kernel
theorem dX4_init_25 : decode cX4_init 25 = .ok (.putfield 19, 3) := by decide +kernel
theorem dX4_init_28 : decode cX4_init 28 = .ok (.aload_n 0, 1) := by decide +kernel
theorem dX4_init_29 : decode cX4_init 29 = .ok (.bipush 10, 2) := by decide +kernel
theorem dX4_init_31 : decode cX4_init 31 = .ok (.newarray .int, 2) := by decide +kernel
theorem dX4_init_33 : decode cX4_init 33 = .ok (.putfield 22, 3) := by decide +kernel
theorem dX4_init_36 : decode cX4_init 36 = .ok (.aload_n 0, 1) := by decide +kernel
theorem dX4_init_37 : decode cX4_init 37 = .ok (.bipush 10, 2) := by decide +kernel
theorem dX4_init_39 : decode cX4_init 39 = .ok (.newarray .int, 2) := by decide +kernel
theorem dX4_init_41 : decode cX4_init 41 = .ok (.putfield 25, 3) := by decide +kernel
theorem dX4_init_44 : decode cX4_init 44 = .ok (.return_, 1) := by decide +kernel
theorem dX4_has_0 : decode cX4_has 0 = .ok (.iload_n 1, 1) := by decide +kernel
theorem dX4_has_1 : decode cX4_has 1 = .ok (.ifCond .lt 21, 3) := by decide +kernel
theorem dX4_has_4 : decode cX4_has 4 = .ok (.iload_n 1, 1) := by decide +kernel
theorem dX4_has_5 : decode cX4_has 5 = .ok (.aload_n 0, 1) := by decide +kernel
theorem dX4_has_6 : decode cX4_has 6 = .ok (.getfield 28, 3) := by decide +kernel
theorem dX4_has_9 : decode cX4_has 9 = .ok (.if_icmp .ge 13, 3) := by decide +kernel
theorem dX4_has_12 : decode cX4_has 12 = .ok (.iload_n 1, 1) := by decide +kernel
theorem dX4_has_13 : decode cX4_has 13 = .ok (.bipush 10, 2) := by decide +kernel
theorem dX4_has_15 : decode cX4_has 15 = .ok (.if_icmp .ge 7, 3) := by decide +kernel
theorem dX4_has_18 : decode cX4_has 18 = .ok (.iconst 1, 1) := by decide +kernel
theorem dX4_has_19 : decode cX4_has 19 = .ok (.goto 4, 3) := by decide +kernel
theorem dX4_has_22 : decode cX4_has 22 = .ok (.iconst 0, 1) := by decide +kernel
theorem dX4_has_23 : decode cX4_has 23 = .ok (.ireturn, 1) := by decide +kernel
theorem dX4_find_0 : decode cX4_find 0 = .ok (.iconst 0, 1) := by decide +kernel
theorem dX4_find_1 : decode cX4_find 1 = .ok (.istore_n 3, 1) := by decide +kernel
theorem dX4_find_2 : decode cX4_find 2 = .ok (.iload_n 3, 1) := by decide +kernel
theorem dX4_find_3 : decode cX4_find 3 = .ok (.aload_n 0, 1) := by decide +kernel
theorem dX4_find_4 : decode cX4_find 4 = .ok (.getfield 28, 3) := by decide +kernel
theorem dX4_find_7 : decode cX4_find 7 = .ok (.if_icmp .ge 22, 3) := by decide +kernel
theorem dX4_find_10 : decode cX4_find 10 = .ok (.aload_n 0, 1) := by decide +kernel
theorem dX4_find_11 : decode cX4_find 11 = .ok (.getfield 9, 3) := by decide +kernel
theorem dX4_find_14 : decode cX4_find 14 = .ok (.iload_n 3, 1) := by decide +kernel
theorem dX4_find_15 : decode cX4_find 15 = .ok (.laload, 1) := by decide +kernel
theorem dX4_find_16 : decode cX4_find 16 = .ok (.lload_n 1, 1) := by decide +kernel
theorem dX4_find_17 : decode cX4_find 17 = .ok (.lcmp, 1) := by decide +kernel
theorem dX4_find_18 : decode cX4_find 18 = .ok (.ifCond .ne 5, 3) := by decide +kernel
theorem dX4_find_21 : decode cX4_find 21 = .ok (.iload_n 3, 1) := by decide +kernel
theorem dX4_find_22 : decode cX4_find 22 = .ok (.ireturn, 1) := by decide +kernel
theorem dX4_find_23 : decode cX4_find 23 = .ok (.iinc 3 1, 3) := by decide +kernel
theorem dX4_find_26 : decode cX4_find 26 = .ok (.goto (-24), 3) := by decide +kernel
theorem dX4_find_29 : decode cX4_find 29 = .ok (.iconst (-1), 1) := by decide +kernel
theorem dX4_find_30 : decode cX4_find 30 = .ok (.ireturn, 1) := by decide +kernel
theorem dX4_add_0 : decode cX4_add 0 = .ok (.aload_n 0, 1) := by decide +kernel
theorem dX4_add_1 : decode cX4_add 1 = .ok (.getfield 28, 3) := by decide +kernel
theorem dX4_add_4 : decode cX4_add 4 = .ok (.bipush 10, 2) := by decide +kernel
theorem dX4_add_6 : decode cX4_add 6 = .ok (.if_icmp .ge 66, 3) := by decide +kernel
theorem dX4_add_9 : decode cX4_add 9 = .ok (.aload_n 0, 1) := by decide +kernel
theorem dX4_add_10 : decode cX4_add 10 = .ok (.getfield 9, 3) := by decide +kernel
theorem dX4_add_13 : decode cX4_add 13 = .ok (.aload_n 0, 1) := by decide +kernel
theorem dX4_add_14 : decode cX4_add 14 = .ok (.getfield 28, 3) := by decide +kernel
theorem dX4_add_17 : decode cX4_add 17 = .ok (.lload_n 1, 1) := by decide +kernel
theorem dX4_add_18 : decode cX4_add 18 = .ok (.lastore, 1) := by decide +kernel
theorem dX4_add_19 : decode cX4_add 19 = .ok (.aload_n 0, 1) := by decide +kernel
theorem dX4_add_20 : decode cX4_add 20 = .ok (.getfield 15, 3) := by decide +kernel
theorem dX4_add_23 : decode cX4_add 23 = .ok (.aload_n 0, 1) := by decide +kernel
theorem dX4_add_24 : decode cX4_add 24 = .ok (.getfield 28, 3) := by decide +kernel
theorem dX4_add_27 : decode cX4_add 27 = .ok (.iload_n 3, 1) := by decide +kernel
theorem dX4_add_28 : decode cX4_add 28 = .ok (.iastore, 1) := by decide +kernel
theorem dX4_add_29 : decode cX4_add 29 = .ok (.aload_n 0, 1) := by decide +kernel
theorem dX4_add_30 : decode cX4_add 30 = .ok (.getfield 19, 3) := by decide +kernel
theorem dX4_add_33 : decode cX4_add 33 = .ok (.aload_n 0, 1) := by decide +kernel
theorem dX4_add_34 : decode cX4_add 34 = .ok (.getfield 28, 3) := by decide +kernel
theorem dX4_add_37 : decode cX4_add 37 = .ok (.iload 4, 2) := by decide +kernel
theorem dX4_add_39 : decode cX4_add 39 = .ok (.iastore, 1) := by decide +kernel
theorem dX4_add_40 : decode cX4_add 40 = .ok (.aload_n 0, 1) := by decide +kernel
theorem dX4_add_41 : decode cX4_add 41 = .ok (.getfield 22, 3) := by decide +kernel
theorem dX4_add_44 : decode cX4_add 44 = .ok (.aload_n 0, 1) := by decide +kernel
theorem dX4_add_45 : decode cX4_add 45 = .ok (.getfield 28, 3) := by decide +kernel
theorem dX4_add_48 : decode cX4_add 48 = .ok (.iload 5, 2) := by decide +kernel
theorem dX4_add_50 : decode cX4_add 50 = .ok (.iastore, 1) := by decide +kernel
theorem dX4_add_51 : decode cX4_add 51 = .ok (.aload_n 0, 1) := by decide +kernel
theorem dX4_add_52 : decode cX4_add 52 = .ok (.getfield 25, 3) := by decide +kernel
theorem dX4_add_55 : decode cX4_add 55 = .ok (.aload_n 0, 1) := by decide +kernel
theorem dX4_add_56 : decode cX4_add 56 = .ok (.getfield 28, 3) := by decide +kernel
theorem dX4_add_59 : decode cX4_add 59 = .ok (.iload 6, 2) := by decide +kernel
theorem dX4_add_61 : decode cX4_add 61 = .ok (.iastore, 1) := by decide +kernel
theorem dX4_add_62 : decode cX4_add 62 = .ok (.aload_n 0, 1) := by decide +kernel
theorem dX4_add_63 : decode cX4_add 63 = .ok (.dup, 1) := by decide +kernel
theorem dX4_add_64 : decode cX4_add 64 = .ok (.getfield 28, 3) := by decide +kernel
theorem dX4_add_67 : decode cX4_add 67 = .ok (.iconst 1, 1) := by decide +kernel
theorem dX4_add_68 : decode cX4_add 68 = .ok (.iadd, 1) := by decide +kernel
theorem dX4_add_69 : decode cX4_add 69 = .ok (.putfield 28, 3) := by decide +kernel
theorem dX4_add_72 : decode cX4_add 72 = .ok (.return_, 1) := by decide +kernel
theorem dX6_init_0 : decode cX6_init 0 = .ok (.aload_n 0, 1) := by decide +kernel
theorem dX6_init_1 : decode cX6_init 1 = .ok (.invokespecial 3, 3) := by decide +kernel
theorem dX6_init_4 : decode cX6_init 4 = .ok (.aload_n 0, 1) := by decide +kernel
theorem dX6_init_5 : decode cX6_init 5 = .ok (.bipush 16, 2) := by decide +kernel
theorem dX6_init_7 : decode cX6_init 7 = .ok (.anewarray 9, 3) := by decide +kernel
theorem dX6_init_10 : decode cX6_init 10 = .ok (.putfield 11, 3) := by decide +kernel
theorem dX6_init_13 : decode cX6_init 13 = .ok (.aload_n 0, 1) := by decide +kernel
theorem dX6_init_14 : decode cX6_init 14 = .ok (.bipush 16, 2) := by decide +kernel
theorem dX6_init_16 : decode cX6_init 16 = .ok (.newarray .int, 2) := by decide +kernel
theorem dX6_init_18 : decode cX6_init 18 = .ok (.putfield 17, 3) := by decide +kernel
theorem dX6_init_21 : decode cX6_init 21 = .ok (.aload_n 0, 1) := by decide +kernel
theorem dX6_init_22 : decode cX6_init 22 = .ok (.bipush 16, 2) := by decide +kernel
theorem dX6_init_24 : decode cX6_init 24 = .ok (.newarray .int, 2) := by decide +kernel
theorem dX6_init_26 : decode cX6_init 26 = .ok (.putfield 21, 3) := by decide +kernel
theorem dX6_init_29 : decode cX6_init 29 = .ok (.aload_n 0, 1) := by decide +kernel
theorem dX6_init_30 : decode cX6_init 30 = .ok (.bipush 16, 2) := by decide +kernel
theorem dX6_init_32 : decode cX6_init 32 = .ok (.newarray .int, 2) := by decide +kernel
theorem dX6_init_34 : decode cX6_init 34 = .ok (.putfield 24, 3) := by decide +kernel
theorem dX6_init_37 : decode cX6_init 37 = .ok (.aload_n 0, 1) := by decide +kernel
theorem dX6_init_38 : decode cX6_init 38 = .ok (.sipush 400, 3) := by decide +kernel
theorem dX6_init_41 : decode cX6_init 41 = .ok (.anewarray 9, 3) := by decide +kernel
theorem dX6_init_44 : decode cX6_init 44 = .ok (.putfield 27, 3) := by decide +kernel
theorem dX6_init_47 : decode cX6_init 47 = .ok (.aload_n 0, 1) := by decide +kernel
theorem dX6_init_48 : decode cX6_init 48 = .ok (.sipush 400, 3) := by decide +kernel
theorem dX6_init_51 : decode cX6_init 51 = .ok (.newarray .int, 2) := by decide +kernel
theorem dX6_init_53 : decode cX6_init 53 = .ok (.putfield 30, 3) := by decide +kernel
theorem dX6_init_56 : decode cX6_init 56 = .ok (.iconst 0, 1) := by decide +kernel
theorem dX6_init_57 : decode cX6_init 57 = .ok (.istore_n 1, 1) := by decide +kernel
theorem dX6_init_58 : decode cX6_init 58 = .ok (.iload_n 1, 1) := by decide +kernel
theorem dX6_init_59 : decode cX6_init 59 = .ok (.bipush 16, 2) := by decide +kernel
theorem dX6_init_61 : decode cX6_init 61 = .ok (.if_icmp .ge 18, 3) := by decide +kernel
theorem dX6_init_64 : decode cX6_init 64 = .ok (.aload_n 0, 1) := by decide +kernel
theorem dX6_init_65 : decode cX6_init 65 = .ok (.getfield 11, 3) := by decide +kernel
theorem dX6_init_68 : decode cX6_init 68 = .ok (.iload_n 1, 1) := by decide +kernel
theorem dX6_init_69 : decode cX6_init 69 = .ok (.getstatic 33, 3) := by decide +kernel
theorem dX6_init_72 : decode cX6_init 72 = .ok (.aastore, 1) := by decide +kernel
theorem dX6_init_73 : decode cX6_init 73 = .ok (.iinc 1 1, 3) := by decide +kernel
theorem dX6_init_76 : decode cX6_init 76 = .ok (.goto (-18), 3) := by decide +kernel
theorem dX6_init_79 : decode cX6_init 79 = .ok (.iconst 0, 1) := by decide +kernel
theorem dX6_init_80 : decode cX6_init 80 = .ok (.istore_n 1, 1) := by decide +kernel
theorem dX6_init_81 : decode cX6_init 81 = .ok (.iload_n 1, 1) := by decide +kernel
theorem dX6_init_82 : decode cX6_init 82 = .ok (.sipush 400, 3) := by decide +kernel
theorem dX6_init_85 : decode cX6_init 85 = .ok (.if_icmp .ge 18, 3) := by decide +kernel
theorem dX6_init_88 : decode cX6_init 88 = .ok (.aload_n 0, 1) := by decide +kernel
theorem dX6_init_89 : decode cX6_init 89 = .ok (.getfield 27, 3) := by decide +kernel
theorem dX6_init_92 : decode cX6_init 92 = .ok (.iload_n 1, 1) := by decide +kernel
theorem dX6_init_93 : decode cX6_init 93 = .ok (.getstatic 33, 3) := by decide +kernel
theorem dX6_init_96 : decode cX6_init 96 = .ok (.aastore, 1) := by decide +kernel
theorem dX6_init_97 : decode cX6_init 97 = .ok (.iinc 1 1, 3) := by decide +kernel
theorem dX6_init_100 : decode cX6_init 100 = .ok (.goto (-19), 3) := by decide +kernel
theorem dX6_init_103 : decode cX6_init 103 = .ok (.return_, 1) := by decide +kernel
theorem dX6_add_0 : decode cX6_add 0 = .ok (.aload_n 0, 1) := by decide +kernel
theorem dX6_add_1 : decode cX6_add 1 = .ok (.getfield 37, 3) := by decide +kernel
theorem dX6_add_4 : decode cX6_add 4 = .ok (.bipush 16, 2) := by decide +kernel
theorem dX6_add_6 : decode cX6_add 6 = .ok (.if_icmp .ge 59, 3) := by decide +kernel
theorem dX6_add_9 : decode cX6_add 9 = .ok (.aload_n 0, 1) := by decide +kernel
theorem dX6_add_10 : decode cX6_add 10 = .ok (.getfield 11, 3) := by decide +kernel
theorem dX6_add_13 : decode cX6_add 13 = .ok (.aload_n 0, 1) := by decide +kernel
theorem dX6_add_14 : decode cX6_add 14 = .ok (.getfield 37, 3) := by decide +kernel
theorem dX6_add_17 : decode cX6_add 17 = .ok (.aload_n 1, 1) := by decide +kernel
theorem dX6_add_18 : decode cX6_add 18 = .ok (.aastore, 1) := by decide +kernel
theorem dX6_add_19 : decode cX6_add 19 = .ok (.aload_n 0, 1) := by decide +kernel
theorem dX6_add_20 : decode cX6_add 20 = .ok (.getfield 17, 3) := by decide +kernel
theorem dX6_add_23 : decode cX6_add 23 = .ok (.aload_n 0, 1) := by decide +kernel
theorem dX6_add_24 : decode cX6_add 24 = .ok (.getfield 37, 3) := by decide +kernel
theorem dX6_add_27 : decode cX6_add 27 = .ok (.iload_n 2, 1) := by decide +kernel
theorem dX6_add_28 : decode cX6_add 28 = .ok (.iastore, 1) := by decide +kernel
theorem dX6_add_29 : decode cX6_add 29 = .ok (.aload_n 0, 1) := by decide +kernel
theorem dX6_add_30 : decode cX6_add 30 = .ok (.getfield 21, 3) := by decide +kernel
theorem dX6_add_33 : decode cX6_add 33 = .ok (.aload_n 0, 1) := by decide +kernel
theorem dX6_add_34 : decode cX6_add 34 = .ok (.getfield 37, 3) := by decide +kernel
theorem dX6_add_37 : decode cX6_add 37 = .ok (.aload_n 0, 1) := by decide +kernel
theorem dX6_add_38 : decode cX6_add 38 = .ok (.getfield 41, 3) := by decide +kernel
theorem dX6_add_41 : decode cX6_add 41 = .ok (.iastore, 1) := by decide +kernel
theorem dX6_add_42 : decode cX6_add 42 = .ok (.aload_n 0, 1) := by decide +kernel
theorem dX6_add_43 : decode cX6_add 43 = .ok (.getfield 24, 3) := by decide +kernel
theorem dX6_add_46 : decode cX6_add 46 = .ok (.aload_n 0, 1) := by decide +kernel
theorem dX6_add_47 : decode cX6_add 47 = .ok (.getfield 37, 3) := by decide +kernel
theorem dX6_add_50 : decode cX6_add 50 = .ok (.aload_n 0, 1) := by decide +kernel
theorem dX6_add_51 : decode cX6_add 51 = .ok (.getfield 41, 3) := by decide +kernel
theorem dX6_add_54 : decode cX6_add 54 = .ok (.iastore, 1) := by decide +kernel
theorem dX6_add_55 : decode cX6_add 55 = .ok (.aload_n 0, 1) := by decide +kernel
theorem dX6_add_56 : decode cX6_add 56 = .ok (.dup, 1) := by decide +kernel
theorem dX6_add_57 : decode cX6_add 57 = .ok (.getfield 37, 3) := by decide +kernel
theorem dX6_add_60 : decode cX6_add 60 = .ok (.iconst 1, 1) := by decide +kernel
theorem dX6_add_61 : decode cX6_add 61 = .ok (.iadd, 1) := by decide +kernel
theorem dX6_add_62 : decode cX6_add 62 = .ok (.putfield 37, 3) := by decide +kernel
theorem dX6_add_65 : decode cX6_add 65 = .ok (.return_, 1) := by decide +kernel
theorem dX6_endTest_0 : decode cX6_endTest 0 = .ok (.aload_n 0, 1) := by decide +kernel
theorem dX6_endTest_1 : decode cX6_endTest 1 = .ok (.getfield 37, 3) := by decide +kernel
theorem dX6_endTest_4 : decode cX6_endTest 4 = .ok (.ifCond .le 27, 3) := by decide +kernel
theorem dX6_endTest_7 : decode cX6_endTest 7 = .ok (.aload_n 0, 1) := by decide +kernel
theorem dX6_endTest_8 : decode cX6_endTest 8 = .ok (.getfield 37, 3) := by decide +kernel
theorem dX6_endTest_11 : decode cX6_endTest 11 = .ok (.bipush 16, 2) := by decide +kernel
theorem dX6_endTest_13 : decode cX6_endTest 13 = .ok (.if_icmp .gt 18, 3) := by decide +kernel
theorem dX6_endTest_16 : decode cX6_endTest 16 = .ok (.aload_n 0, 1) := by decide +kernel
theorem dX6_endTest_17 : decode cX6_endTest 17 = .ok (.getfield 24, 3) := by decide +kernel
theorem dX6_endTest_20 : decode cX6_endTest 20 = .ok (.aload_n 0, 1) := by decide +kernel
theorem dX6_endTest_21 : decode cX6_endTest 21 = .ok (.getfield 37, 3) := by decide +kernel
theorem dX6_endTest_24 : decode cX6_endTest 24 = .ok (.iconst 1, 1) := by decide +kernel
theorem dX6_endTest_25 : decode cX6_endTest 25 = .ok (.isub, 1) := by decide +kernel
theorem dX6_endTest_26 : decode cX6_endTest 26 = .ok (.aload_n 0, 1) := by decide +kernel
theorem dX6_endTest_27 : decode cX6_endTest 27 = .ok (.getfield 41, 3) := by decide +kernel
theorem dX6_endTest_30 : decode cX6_endTest 30 = .ok (.iastore, 1) := by decide +kernel
theorem dX6_endTest_31 : decode cX6_endTest 31 = .ok (.return_, 1) := by decide +kernel
theorem dX6_addStep_0 : decode cX6_addStep 0 = .ok (.aload_n 0, 1) := by decide +kernel
theorem dX6_addStep_1 : decode cX6_addStep 1 = .ok (.getfield 41, 3) := by decide +kernel
theorem dX6_addStep_4 : decode cX6_addStep 4 = .ok (.sipush 400, 3) := by decide +kernel
theorem dX6_addStep_7 : decode cX6_addStep 7 = .ok (.if_icmp .lt 5, 3) := by decide +kernel
theorem dX6_addStep_10 : decode cX6_addStep 10 = .ok (.iconst 0, 1) := by decide +kernel
theorem dX6_addStep_11 : decode cX6_addStep 11 = .ok (.ireturn, 1) := by decide +kernel
theorem dX6_addStep_12 : decode cX6_addStep 12 = .ok (.aload_n 0, 1) := by decide +kernel
theorem dX6_addStep_13 : decode cX6_addStep 13 = .ok (.getfield 27, 3) := by decide +kernel
theorem dX6_addStep_16 : decode cX6_addStep 16 = .ok (.aload_n 0, 1) := by decide +kernel
theorem dX6_addStep_17 : decode cX6_addStep 17 = .ok (.getfield 41, 3) := by decide +kernel
theorem dX6_addStep_20 : decode cX6_addStep 20 = .ok (.aload_n 1, 1) := by decide +kernel
theorem dX6_addStep_21 : decode cX6_addStep 21 = .ok (.aastore, 1) := by decide +kernel
theorem dX6_addStep_22 : decode cX6_addStep 22 = .ok (.aload_n 0, 1) := by decide +kernel
theorem dX6_addStep_23 : decode cX6_addStep 23 = .ok (.getfield 30, 3) := by decide +kernel
theorem dX6_addStep_26 : decode cX6_addStep 26 = .ok (.aload_n 0, 1) := by decide +kernel
theorem dX6_addStep_27 : decode cX6_addStep 27 = .ok (.getfield 41, 3) := by decide +kernel
theorem dX6_addStep_30 : decode cX6_addStep 30 = .ok (.iload_n 2, 1) := by decide +kernel
theorem dX6_addStep_31 : decode cX6_addStep 31 = .ok (.iastore, 1) := by decide +kernel
theorem dX6_addStep_32 : decode cX6_addStep 32 = .ok (.aload_n 0, 1) := by decide +kernel
theorem dX6_addStep_33 : decode cX6_addStep 33 = .ok (.dup, 1) := by decide +kernel
theorem dX6_addStep_34 : decode cX6_addStep 34 = .ok (.getfield 41, 3) := by decide +kernel
theorem dX6_addStep_37 : decode cX6_addStep 37 = .ok (.iconst 1, 1) := by decide +kernel
theorem dX6_addStep_38 : decode cX6_addStep 38 = .ok (.iadd, 1) := by decide +kernel
theorem dX6_addStep_39 : decode cX6_addStep 39 = .ok (.putfield 41, 3) := by decide +kernel
theorem dX6_addStep_42 : decode cX6_addStep 42 = .ok (.iconst 1, 1) := by decide +kernel
theorem dX6_addStep_43 : decode cX6_addStep 43 = .ok (.ireturn, 1) := by decide +kernel
theorem dX6_resolve_0 : decode cX6_resolve 0 = .ok (.iconst 0, 1) := by decide +kernel
theorem dX6_resolve_1 : decode cX6_resolve 1 = .ok (.istore_n 2, 1) := by decide +kernel
theorem dX6_resolve_2 : decode cX6_resolve 2 = .ok (.iload_n 2, 1) := by decide +kernel
theorem dX6_resolve_3 : decode cX6_resolve 3 = .ok (.aload_n 0, 1) := by decide +kernel
theorem dX6_resolve_4 : decode cX6_resolve 4 = .ok (.getfield 37, 3) := by decide +kernel
theorem dX6_resolve_7 : decode cX6_resolve 7 = .ok (.if_icmp .ge 26, 3) := by decide +kernel
theorem dX6_resolve_10 : decode cX6_resolve 10 = .ok (.aload_n 0, 1) := by decide +kernel
theorem dX6_resolve_11 : decode cX6_resolve 11 = .ok (.getfield 17, 3) := by decide +kernel
theorem dX6_resolve_14 : decode cX6_resolve 14 = .ok (.iload_n 2, 1) := by decide +kernel
theorem dX6_resolve_15 : decode cX6_resolve 15 = .ok (.aload_n 1, 1) := by decide +kernel
theorem dX6_resolve_16 : decode cX6_resolve 16 = .ok (.aload_n 0, 1) := by decide +kernel
theorem dX6_resolve_17 : decode cX6_resolve 17 = .ok (.getfield 17, 3) := by decide +kernel
theorem dX6_resolve_20 : decode cX6_resolve 20 = .ok (.iload_n 2, 1) := by decide +kernel
theorem dX6_resolve_21 : decode cX6_resolve 21 = .ok (.iaload, 1) := by decide +kernel
theorem dX6_resolve_22 : decode cX6_resolve 22 = .ok (.invokevirtual 44, 3) := by decide +kernel
theorem dX6_resolve_25 : decode cX6_resolve 25 = .ok (.l2i, 1) := by decide +kernel
theorem dX6_resolve_26 : decode cX6_resolve 26 = .ok (.iastore, 1) := by decide +kernel
theorem dX6_resolve_27 : decode cX6_resolve 27 = .ok (.iinc 2 1, 3) := by decide +kernel
theorem dX6_resolve_30 : decode cX6_resolve 30 = .ok (.goto (-28), 3) := by decide +kernel
theorem dX6_resolve_33 : decode cX6_resolve 33 = .ok (.iconst 0, 1) := by decide +kernel
theorem dX6_resolve_34 : decode cX6_resolve 34 = .ok (.istore_n 2, 1) := by decide +kernel
theorem dX6_resolve_35 : decode cX6_resolve 35 = .ok (.iload_n 2, 1) := by decide +kernel
theorem dX6_resolve_36 : decode cX6_resolve 36 = .ok (.aload_n 0, 1) := by decide +kernel
theorem dX6_resolve_37 : decode cX6_resolve 37 = .ok (.getfield 41, 3) := by decide +kernel
theorem dX6_resolve_40 : decode cX6_resolve 40 = .ok (.if_icmp .ge 26, 3) := by decide +kernel
theorem dX6_resolve_43 : decode cX6_resolve 43 = .ok (.aload_n 0, 1) := by decide +kernel
theorem dX6_resolve_44 : decode cX6_resolve 44 = .ok (.getfield 30, 3) := by decide +kernel
theorem dX6_resolve_47 : decode cX6_resolve 47 = .ok (.iload_n 2, 1) := by decide +kernel
theorem dX6_resolve_48 : decode cX6_resolve 48 = .ok (.aload_n 1, 1) := by decide +kernel
theorem dX6_resolve_49 : decode cX6_resolve 49 = .ok (.aload_n 0, 1) := by decide +kernel
theorem dX6_resolve_50 : decode cX6_resolve 50 = .ok (.getfield 30, 3) := by decide +kernel
theorem dX6_resolve_53 : decode cX6_resolve 53 = .ok (.iload_n 2, 1) := by decide +kernel
theorem dX6_resolve_54 : decode cX6_resolve 54 = .ok (.iaload, 1) := by decide +kernel
theorem dX6_resolve_55 : decode cX6_resolve 55 = .ok (.invokevirtual 44, 3) := by decide +kernel
theorem dX6_resolve_58 : decode cX6_resolve 58 = .ok (.l2i, 1) := by decide +kernel
theorem dX6_resolve_59 : decode cX6_resolve 59 = .ok (.iastore, 1) := by decide +kernel
theorem dX6_resolve_60 : decode cX6_resolve 60 = .ok (.iinc 2 1, 3) := by decide +kernel
theorem dX6_resolve_63 : decode cX6_resolve 63 = .ok (.goto (-28), 3) := by decide +kernel
theorem dX6_resolve_66 : decode cX6_resolve 66 = .ok (.return_, 1) := by decide +kernel
theorem dX7_init_0 : decode cX7_init 0 = .ok (.aload_n 0, 1) := by decide +kernel
theorem dX7_init_1 : decode cX7_init 1 = .ok (.invokespecial 1, 3) := by decide +kernel
theorem dX7_init_4 : decode cX7_init 4 = .ok (.aload_n 0, 1) := by decide +kernel
theorem dX7_init_5 : decode cX7_init 5 = .ok (.new 7, 3) := by decide +kernel
theorem dX7_init_8 : decode cX7_init 8 = .ok (.dup, 1) := by decide +kernel
theorem dX7_init_9 : decode cX7_init 9 = .ok (.invokespecial 9, 3) := by decide +kernel
theorem dX7_init_12 : decode cX7_init 12 = .ok (.putfield 10, 3) := by decide +kernel
theorem dX7_init_15 : decode cX7_init 15 = .ok (.aload_n 0, 1) := by decide +kernel
theorem dX7_init_16 : decode cX7_init 16 = .ok (.new 16, 3) := by decide +kernel
theorem dX7_init_19 : decode cX7_init 19 = .ok (.dup, 1) := by decide +kernel
theorem dX7_init_20 : decode cX7_init 20 = .ok (.invokespecial 18, 3) := by decide +kernel
theorem dX7_init_23 : decode cX7_init 23 = .ok (.putfield 19, 3) := by decide +kernel
theorem dX7_init_26 : decode cX7_init 26 = .ok (.aload_n 0, 1) := by decide +kernel
theorem dX7_init_27 : decode cX7_init 27 = .ok (.new 23, 3) := by decide +kernel
theorem dX7_init_30 : decode cX7_init 30 = .ok (.dup, 1) := by decide +kernel
theorem dX7_init_31 : decode cX7_init 31 = .ok (.invokespecial 25, 3) := by decide +kernel
theorem dX7_init_34 : decode cX7_init 34 = .ok (.putfield 26, 3) := by decide +kernel
theorem dX7_init_37 : decode cX7_init 37 = .ok (.return_, 1) := by decide +kernel
theorem dX7_clear_0 : decode cX7_clear 0 = .ok (.aload_n 0, 1) := by decide +kernel
theorem dX7_clear_1 : decode cX7_clear 1 = .ok (.getfield 10, 3) := by decide +kernel
theorem dX7_clear_4 : decode cX7_clear 4 = .ok (.iconst 0, 1) := by decide +kernel
theorem dX7_clear_5 : decode cX7_clear 5 = .ok (.putfield 30, 3) := by decide +kernel
theorem dX7_clear_8 : decode cX7_clear 8 = .ok (.aload_n 0, 1) := by decide +kernel
theorem dX7_clear_9 : decode cX7_clear 9 = .ok (.getfield 19, 3) := by decide +kernel
theorem dX7_clear_12 : decode cX7_clear 12 = .ok (.iconst 0, 1) := by decide +kernel
theorem dX7_clear_13 : decode cX7_clear 13 = .ok (.putfield 34, 3) := by decide +kernel
theorem dX7_clear_16 : decode cX7_clear 16 = .ok (.aload_n 0, 1) := by decide +kernel
theorem dX7_clear_17 : decode cX7_clear 17 = .ok (.getfield 26, 3) := by decide +kernel
theorem dX7_clear_20 : decode cX7_clear 20 = .ok (.iconst 0, 1) := by decide +kernel
theorem dX7_clear_21 : decode cX7_clear 21 = .ok (.putfield 35, 3) := by decide +kernel
theorem dX7_clear_24 : decode cX7_clear 24 = .ok (.aload_n 0, 1) := by decide +kernel
theorem dX7_clear_25 : decode cX7_clear 25 = .ok (.getfield 26, 3) := by decide +kernel
theorem dX7_clear_28 : decode cX7_clear 28 = .ok (.iconst 0, 1) := by decide +kernel
theorem dX7_clear_29 : decode cX7_clear 29 = .ok (.putfield 36, 3) := by decide +kernel
theorem dX7_clear_32 : decode cX7_clear 32 = .ok (.return_, 1) := by decide +kernel
theorem dX8_init_0 : decode cX8_init 0 = .ok (.aload_n 0, 1) := by decide +kernel
theorem dX8_init_1 : decode cX8_init 1 = .ok (.invokespecial 3, 3) := by decide +kernel
theorem dX8_init_4 : decode cX8_init 4 = .ok (.aload_n 0, 1) := by decide +kernel
theorem dX8_init_5 : decode cX8_init 5 = .ok (.new 9, 3) := by decide +kernel
theorem dX8_init_8 : decode cX8_init 8 = .ok (.dup, 1) := by decide +kernel
theorem dX8_init_9 : decode cX8_init 9 = .ok (.invokespecial 11, 3) := by decide +kernel
theorem dX8_init_12 : decode cX8_init 12 = .ok (.putfield 12, 3) := by decide +kernel
theorem dX8_init_15 : decode cX8_init 15 = .ok (.aload_n 0, 1) := by decide +kernel
theorem dX8_init_16 : decode cX8_init 16 = .ok (.new 18, 3) := by decide +kernel
theorem dX8_init_19 : decode cX8_init 19 = .ok (.dup, 1) := by decide +kernel
theorem dX8_init_20 : decode cX8_init 20 = .ok (.invokespecial 20, 3) := by decide +kernel
theorem dX8_init_23 : decode cX8_init 23 = .ok (.putfield 21, 3) := by decide +kernel
theorem dX8_init_26 : decode cX8_init 26 = .ok (.aload_n 0, 1) := by decide +kernel
theorem dX8_init_27 : decode cX8_init 27 = .ok (.bipush 20, 2) := by decide +kernel
theorem dX8_init_29 : decode cX8_init 29 = .ok (.putfield 25, 3) := by decide +kernel
theorem dX8_init_32 : decode cX8_init 32 = .ok (.aload_n 0, 1) := by decide +kernel
theorem dX8_init_33 : decode cX8_init 33 = .ok (.iconst 3, 1) := by decide +kernel
theorem dX8_init_34 : decode cX8_init 34 = .ok (.putfield 29, 3) := by decide +kernel
theorem dX8_init_37 : decode cX8_init 37 = .ok (.aload_n 0, 1) := by decide +kernel
theorem dX8_init_38 : decode cX8_init 38 = .ok (.iconst 3, 1) := by decide +kernel
theorem dX8_init_39 : decode cX8_init 39 = .ok (.putfield 32, 3) := by decide +kernel
theorem dX8_init_42 : decode cX8_init 42 = .ok (.aload_n 0, 1) := by decide +kernel
theorem dX8_init_43 : decode cX8_init 43 = .ok (.bipush 10, 2) := by decide +kernel
theorem dX8_init_45 : decode cX8_init 45 = .ok (.newarray .boolean, 2) := by decide +kernel
theorem dX8_init_47 : decode cX8_init 47 = .ok (.putfield 35, 3) := by decide +kernel
theorem dX8_init_50 : decode cX8_init 50 = .ok (.aload_n 0, 1) := by decide +kernel
theorem dX8_init_51 : decode cX8_init 51 = .ok (.bipush 10, 2) := by decide +kernel
theorem dX8_init_53 : decode cX8_init 53 = .ok (.newarray .boolean, 2) := by decide +kernel
theorem dX8_init_55 : decode cX8_init 55 = .ok (.putfield 39, 3) := by decide +kernel
theorem dX8_init_58 : decode cX8_init 58 = .ok (.aload_n 0, 1) := by decide +kernel
theorem dX8_init_59 : decode cX8_init 59 = .ok (.bipush 10, 2) := by decide +kernel
theorem dX8_init_61 : decode cX8_init 61 = .ok (.newarray .boolean, 2) := by decide +kernel
theorem dX8_init_63 : decode cX8_init 63 = .ok (.putfield 42, 3) := by decide +kernel
theorem dX8_init_66 : decode cX8_init 66 = .ok (.return_, 1) := by decide +kernel
theorem dX8_begin_0 : decode cX8_begin 0 = .ok (.aload_n 0, 1) := by decide +kernel
theorem dX8_begin_1 : decode cX8_begin 1 = .ok (.aload_n 1, 1) := by decide +kernel
theorem dX8_begin_2 : decode cX8_begin 2 = .ok (.putfield 21, 3) := by decide +kernel
theorem dX8_begin_5 : decode cX8_begin 5 = .ok (.aload_n 0, 1) := by decide +kernel
theorem dX8_begin_6 : decode cX8_begin 6 = .ok (.iconst 0, 1) := by decide +kernel
theorem dX8_begin_7 : decode cX8_begin 7 = .ok (.putfield 45, 3) := by decide +kernel
theorem dX8_begin_10 : decode cX8_begin 10 = .ok (.aload_n 0, 1) := by decide +kernel
theorem dX8_begin_11 : decode cX8_begin 11 = .ok (.bipush 20, 2) := by decide +kernel
theorem dX8_begin_13 : decode cX8_begin 13 = .ok (.putfield 25, 3) := by decide +kernel
theorem dX8_begin_16 : decode cX8_begin 16 = .ok (.aload_n 0, 1) := by decide +kernel
theorem dX8_begin_17 : decode cX8_begin 17 = .ok (.iconst 0, 1) := by decide +kernel
theorem dX8_begin_18 : decode cX8_begin 18 = .ok (.putfield 48, 3) := by decide +kernel
theorem dX8_begin_21 : decode cX8_begin 21 = .ok (.aload_n 0, 1) := by decide +kernel
theorem dX8_begin_22 : decode cX8_begin 22 = .ok (.iconst 0, 1) := by decide +kernel
theorem dX8_begin_23 : decode cX8_begin 23 = .ok (.putfield 51, 3) := by decide +kernel
theorem dX8_begin_26 : decode cX8_begin 26 = .ok (.aload_n 0, 1) := by decide +kernel
theorem dX8_begin_27 : decode cX8_begin 27 = .ok (.iconst 3, 1) := by decide +kernel
theorem dX8_begin_28 : decode cX8_begin 28 = .ok (.putfield 29, 3) := by decide +kernel
theorem dX8_begin_31 : decode cX8_begin 31 = .ok (.aload_n 0, 1) := by decide +kernel
theorem dX8_begin_32 : decode cX8_begin 32 = .ok (.iconst 3, 1) := by decide +kernel
theorem dX8_begin_33 : decode cX8_begin 33 = .ok (.putfield 32, 3) := by decide +kernel
theorem dX8_begin_36 : decode cX8_begin 36 = .ok (.aload_n 0, 1) := by decide +kernel
theorem dX8_begin_37 : decode cX8_begin 37 = .ok (.iconst 0, 1) := by decide +kernel
theorem dX8_begin_38 : decode cX8_begin 38 = .ok (.putfield 54, 3) := by decide +kernel
theorem dX8_begin_41 : decode cX8_begin 41 = .ok (.aload_n 0, 1) := by decide +kernel
theorem dX8_begin_42 : decode cX8_begin 42 = .ok (.iconst 0, 1) := by decide +kernel
theorem dX8_begin_43 : decode cX8_begin 43 = .ok (.putfield 57, 3) := by decide +kernel
theorem dX8_begin_46 : decode cX8_begin 46 = .ok (.iconst 0, 1) := by decide +kernel
theorem dX8_begin_47 : decode cX8_begin 47 = .ok (.istore_n 2, 1) := by decide +kernel
theorem dX8_begin_48 : decode cX8_begin 48 = .ok (.iload_n 2, 1) := by decide +kernel
theorem dX8_begin_49 : decode cX8_begin 49 = .ok (.bipush 10, 2) := by decide +kernel
theorem dX8_begin_51 : decode cX8_begin 51 = .ok (.if_icmp .ge 16, 3) := by decide +kernel
theorem dX8_begin_54 : decode cX8_begin 54 = .ok (.aload_n 0, 1) := by decide +kernel
theorem dX8_begin_55 : decode cX8_begin 55 = .ok (.getfield 35, 3) := by decide +kernel
theorem dX8_begin_58 : decode cX8_begin 58 = .ok (.iload_n 2, 1) := by decide +kernel
theorem dX8_begin_59 : decode cX8_begin 59 = .ok (.iconst 0, 1) := by decide +kernel
theorem dX8_begin_60 : decode cX8_begin 60 = .ok (.bastore, 1) := by decide +kernel
theorem dX8_begin_61 : decode cX8_begin 61 = .ok (.iinc 2 1, 3) := by decide +kernel
theorem dX8_begin_64 : decode cX8_begin 64 = .ok (.goto (-16), 3) := by decide +kernel
theorem dX8_begin_67 : decode cX8_begin 67 = .ok (.iconst 0, 1) := by decide +kernel
theorem dX8_begin_68 : decode cX8_begin 68 = .ok (.istore_n 2, 1) := by decide +kernel
theorem dX8_begin_69 : decode cX8_begin 69 = .ok (.iload_n 2, 1) := by decide +kernel
theorem dX8_begin_70 : decode cX8_begin 70 = .ok (.bipush 10, 2) := by decide +kernel
theorem dX8_begin_72 : decode cX8_begin 72 = .ok (.if_icmp .ge 23, 3) := by decide +kernel
theorem dX8_begin_75 : decode cX8_begin 75 = .ok (.aload_n 0, 1) := by decide +kernel
theorem dX8_begin_76 : decode cX8_begin 76 = .ok (.getfield 39, 3) := by decide +kernel
theorem dX8_begin_79 : decode cX8_begin 79 = .ok (.iload_n 2, 1) := by decide +kernel
theorem dX8_begin_80 : decode cX8_begin 80 = .ok (.iconst 0, 1) := by decide +kernel
theorem dX8_begin_81 : decode cX8_begin 81 = .ok (.bastore, 1) := by decide +kernel
theorem dX8_begin_82 : decode cX8_begin 82 = .ok (.aload_n 0, 1) := by decide +kernel
theorem dX8_begin_83 : decode cX8_begin 83 = .ok (.getfield 42, 3) := by decide +kernel
theorem dX8_begin_86 : decode cX8_begin 86 = .ok (.iload_n 2, 1) := by decide +kernel
theorem dX8_begin_87 : decode cX8_begin 87 = .ok (.iconst 0, 1) := by decide +kernel
theorem dX8_begin_88 : decode cX8_begin 88 = .ok (.bastore, 1) := by decide +kernel
theorem dX8_begin_89 : decode cX8_begin 89 = .ok (.iinc 2 1, 3) := by decide +kernel
theorem dX8_begin_92 : decode cX8_begin 92 = .ok (.goto (-23), 3) := by decide +kernel
theorem dX8_begin_95 : decode cX8_begin 95 = .ok (.return_, 1) := by decide +kernel
theorem dX8_copyFrom_0 : decode cX8_copyFrom 0 = .ok (.aload_n 0, 1) := by decide +kernel
theorem dX8_copyFrom_1 : decode cX8_copyFrom 1 = .ok (.aload_n 1, 1) := by decide +kernel
theorem dX8_copyFrom_2 : decode cX8_copyFrom 2 = .ok (.getfield 21, 3) := by decide +kernel
theorem dX8_copyFrom_5 : decode cX8_copyFrom 5 = .ok (.putfield 21, 3) := by decide +kernel
theorem dX8_copyFrom_8 : decode cX8_copyFrom 8 = .ok (.aload_n 0, 1) := by decide +kernel
theorem dX8_copyFrom_9 : decode cX8_copyFrom 9 = .ok (.aload_n 1, 1) := by decide +kernel
theorem dX8_copyFrom_10 : decode cX8_copyFrom 10 = .ok (.getfield 45, 3) := by decide +kernel
theorem dX8_copyFrom_13 : decode cX8_copyFrom 13 = .ok (.putfield 45, 3) := by decide +kernel
theorem dX8_copyFrom_16 : decode cX8_copyFrom 16 = .ok (.aload_n 0, 1) := by decide +kernel
theorem dX8_copyFrom_17 : decode cX8_copyFrom 17 = .ok (.aload_n 1, 1) := by decide +kernel
theorem dX8_copyFrom_18 : decode cX8_copyFrom 18 = .ok (.getfield 25, 3) := by decide +kernel
theorem dX8_copyFrom_21 : decode cX8_copyFrom 21 = .ok (.putfield 25, 3) := by decide +kernel
theorem dX8_copyFrom_24 : decode cX8_copyFrom 24 = .ok (.aload_n 0, 1) := by decide +kernel
theorem dX8_copyFrom_25 : decode cX8_copyFrom 25 = .ok (.aload_n 1, 1) := by decide +kernel
theorem dX8_copyFrom_26 : decode cX8_copyFrom 26 = .ok (.getfield 48, 3) := by decide +kernel
theorem dX8_copyFrom_29 : decode cX8_copyFrom 29 = .ok (.putfield 48, 3) := by decide +kernel
theorem dX8_copyFrom_32 : decode cX8_copyFrom 32 = .ok (.aload_n 0, 1) := by decide +kernel
theorem dX8_copyFrom_33 : decode cX8_copyFrom 33 = .ok (.aload_n 1, 1) := by decide +kernel
theorem dX8_copyFrom_34 : decode cX8_copyFrom 34 = .ok (.getfield 51, 3) := by decide +kernel
theorem dX8_copyFrom_37 : decode cX8_copyFrom 37 = .ok (.putfield 51, 3) := by decide +kernel
theorem dX8_copyFrom_40 : decode cX8_copyFrom 40 = .ok (.aload_n 0, 1) := by decide +kernel
theorem dX8_copyFrom_41 : decode cX8_copyFrom 41 = .ok (.aload_n 1, 1) := by decide +kernel
theorem dX8_copyFrom_42 : decode cX8_copyFrom 42 = .ok (.getfield 29, 3) := by decide +kernel
theorem dX8_copyFrom_45 : decode cX8_copyFrom 45 = .ok (.putfield 29, 3) := by decide +kernel
theorem dX8_copyFrom_48 : decode cX8_copyFrom 48 = .ok (.aload_n 0, 1) := by decide +kernel
theorem dX8_copyFrom_49 : decode cX8_copyFrom 49 = .ok (.aload_n 1, 1) := by decide +kernel
theorem dX8_copyFrom_50 : decode cX8_copyFrom 50 = .ok (.getfield 32, 3) := by decide +kernel
theorem dX8_copyFrom_53 : decode cX8_copyFrom 53 = .ok (.putfield 32, 3) := by decide +kernel
theorem dX8_copyFrom_56 : decode cX8_copyFrom 56 = .ok (.aload_n 0, 1) := by decide +kernel
theorem dX8_copyFrom_57 : decode cX8_copyFrom 57 = .ok (.aload_n 1, 1) := by decide +kernel
theorem dX8_copyFrom_58 : decode cX8_copyFrom 58 = .ok (.getfield 54, 3) := by decide +kernel
theorem dX8_copyFrom_61 : decode cX8_copyFrom 61 = .ok (.putfield 54, 3) := by decide +kernel
theorem dX8_copyFrom_64 : decode cX8_copyFrom 64 = .ok (.aload_n 0, 1) := by decide +kernel
theorem dX8_copyFrom_65 : decode cX8_copyFrom 65 = .ok (.aload_n 1, 1) := by decide +kernel
theorem dX8_copyFrom_66 : decode cX8_copyFrom 66 = .ok (.getfield 57, 3) := by decide +kernel
theorem dX8_copyFrom_69 : decode cX8_copyFrom 69 = .ok (.putfield 57, 3) := by decide +kernel
theorem dX8_copyFrom_72 : decode cX8_copyFrom 72 = .ok (.iconst 0, 1) := by decide +kernel
theorem dX8_copyFrom_73 : decode cX8_copyFrom 73 = .ok (.istore_n 2, 1) := by decide +kernel
theorem dX8_copyFrom_74 : decode cX8_copyFrom 74 = .ok (.iload_n 2, 1) := by decide +kernel
theorem dX8_copyFrom_75 : decode cX8_copyFrom 75 = .ok (.bipush 10, 2) := by decide +kernel
theorem dX8_copyFrom_77 : decode cX8_copyFrom 77 = .ok (.if_icmp .ge 21, 3) := by decide +kernel
theorem dX8_copyFrom_80 : decode cX8_copyFrom 80 = .ok (.aload_n 0, 1) := by decide +kernel
theorem dX8_copyFrom_81 : decode cX8_copyFrom 81 = .ok (.getfield 35, 3) := by decide +kernel
theorem dX8_copyFrom_84 : decode cX8_copyFrom 84 = .ok (.iload_n 2, 1) := by decide +kernel
theorem dX8_copyFrom_85 : decode cX8_copyFrom 85 = .ok (.aload_n 1, 1) := by decide +kernel
theorem dX8_copyFrom_86 : decode cX8_copyFrom 86 = .ok (.getfield 35, 3) := by decide +kernel
theorem dX8_copyFrom_89 : decode cX8_copyFrom 89 = .ok (.iload_n 2, 1) := by decide +kernel
theorem dX8_copyFrom_90 : decode cX8_copyFrom 90 = .ok (.baload, 1) := by decide +kernel
theorem dX8_copyFrom_91 : decode cX8_copyFrom 91 = .ok (.bastore, 1) := by decide +kernel
theorem dX8_copyFrom_92 : decode cX8_copyFrom 92 = .ok (.iinc 2 1, 3) := by decide +kernel
theorem dX8_copyFrom_95 : decode cX8_copyFrom 95 = .ok (.goto (-21), 3) := by decide +kernel
theorem dX8_copyFrom_98 : decode cX8_copyFrom 98 = .ok (.iconst 0, 1) := by decide +kernel
theorem dX8_copyFrom_99 : decode cX8_copyFrom 99 = .ok (.istore_n 2, 1) := by decide +kernel
theorem dX8_copyFrom_100 : decode cX8_copyFrom 100 = .ok (.iload_n 2, 1) := by decide +kernel
theorem dX8_copyFrom_101 : decode cX8_copyFrom 101 = .ok (.bipush 10, 2) := by decide +kernel
theorem dX8_copyFrom_103 : decode cX8_copyFrom 103 = .ok (.if_icmp .ge 33, 3) := by decide +kernel
theorem dX8_copyFrom_106 : decode cX8_copyFrom 106 = .ok (.aload_n 0, 1) := by decide +kernel
theorem dX8_copyFrom_107 : decode cX8_copyFrom 107 = .ok (.getfield 39, 3) := by decide +kernel
theorem dX8_copyFrom_110 : decode cX8_copyFrom 110 = .ok (.iload_n 2, 1) := by decide +kernel
theorem dX8_copyFrom_111 : decode cX8_copyFrom 111 = .ok (.aload_n 1, 1) := by decide +kernel
theorem dX8_copyFrom_112 : decode cX8_copyFrom 112 = .ok (.getfield 39, 3) := by decide +kernel
theorem dX8_copyFrom_115 : decode cX8_copyFrom 115 = .ok (.iload_n 2, 1) := by decide +kernel
theorem dX8_copyFrom_116 : decode cX8_copyFrom 116 = .ok (.baload, 1) := by decide +kernel
theorem dX8_copyFrom_117 : decode cX8_copyFrom 117 = .ok (.bastore, 1) := by decide +kernel
theorem dX8_copyFrom_118 : decode cX8_copyFrom 118 = .ok (.aload_n 0, 1) := by decide +kernel
theorem dX8_copyFrom_119 : decode cX8_copyFrom 119 = .ok (.getfield 42, 3) := by decide +kernel
theorem dX8_copyFrom_122 : decode cX8_copyFrom 122 = .ok (.iload_n 2, 1) := by decide +kernel
theorem dX8_copyFrom_123 : decode cX8_copyFrom 123 = .ok (.aload_n 1, 1) := by decide +kernel
theorem dX8_copyFrom_124 : decode cX8_copyFrom 124 = .ok (.getfield 42, 3) := by decide +kernel
theorem dX8_copyFrom_127 : decode cX8_copyFrom 127 = .ok (.iload_n 2, 1) := by decide +kernel
theorem dX8_copyFrom_128 : decode cX8_copyFrom 128 = .ok (.baload, 1) := by decide +kernel
theorem dX8_copyFrom_129 : decode cX8_copyFrom 129 = .ok (.bastore, 1) := by decide +kernel
theorem dX8_copyFrom_130 : decode cX8_copyFrom 130 = .ok (.iinc 2 1, 3) := by decide +kernel
theorem dX8_copyFrom_133 : decode cX8_copyFrom 133 = .ok (.goto (-33), 3) := by decide +kernel
theorem dX8_copyFrom_136 : decode cX8_copyFrom 136 = .ok (.return_, 1) := by decide +kernel
theorem dX8_hangsOver_0 : decode cX8_hangsOver 0 = .ok (.aload_n 0, 1) := by decide +kernel
theorem dX8_hangsOver_1 : decode cX8_hangsOver 1 = .ok (.getfield 21, 3) := by decide +kernel
theorem dX8_hangsOver_4 : decode cX8_hangsOver 4 = .ok (.getfield 60, 3) := by decide +kernel
theorem dX8_hangsOver_7 : decode cX8_hangsOver 7 = .ok (.astore_n 2, 1) := by decide +kernel
theorem dX8_hangsOver_8 : decode cX8_hangsOver 8 = .ok (.aload_n 2, 1) := by decide +kernel
theorem dX8_hangsOver_9 : decode cX8_hangsOver 9 = .ok (.iload_n 1, 1) := by decide +kernel
theorem dX8_hangsOver_10 : decode cX8_hangsOver 10 = .ok (.invokevirtual 64, 3) := by decide +kernel
theorem dX8_hangsOver_13 : decode cX8_hangsOver 13 = .ok (.ifCond .eq 49, 3) := by decide +kernel
theorem dX8_hangsOver_16 : decode cX8_hangsOver 16 = .ok (.aload_n 0, 1) := by decide +kernel
theorem dX8_hangsOver_17 : decode cX8_hangsOver 17 = .ok (.getfield 35, 3) := by decide +kernel
theorem dX8_hangsOver_20 : decode cX8_hangsOver 20 = .ok (.iload_n 1, 1) := by decide +kernel
theorem dX8_hangsOver_21 : decode cX8_hangsOver 21 = .ok (.baload, 1) := by decide +kernel
theorem dX8_hangsOver_22 : decode cX8_hangsOver 22 = .ok (.ifCond .ne 40, 3) := by decide +kernel
theorem dX8_hangsOver_25 : decode cX8_hangsOver 25 = .ok (.aload_n 0, 1) := by decide +kernel
theorem dX8_hangsOver_26 : decode cX8_hangsOver 26 = .ok (.getfield 45, 3) := by decide +kernel
theorem dX8_hangsOver_29 : decode cX8_hangsOver 29 = .ok (.aload_n 2, 1) := by decide +kernel
theorem dX8_hangsOver_30 : decode cX8_hangsOver 30 = .ok (.getfield 70, 3) := by decide +kernel
theorem dX8_hangsOver_33 : decode cX8_hangsOver 33 = .ok (.iload_n 1, 1) := by decide +kernel
theorem dX8_hangsOver_34 : decode cX8_hangsOver 34 = .ok (.iaload, 1) := by decide +kernel
theorem dX8_hangsOver_35 : decode cX8_hangsOver 35 = .ok (.if_icmp .lt 27, 3) := by decide +kernel
theorem dX8_hangsOver_38 : decode cX8_hangsOver 38 = .ok (.aload_n 0, 1) := by decide +kernel
theorem dX8_hangsOver_39 : decode cX8_hangsOver 39 = .ok (.getfield 45, 3) := by decide +kernel
theorem dX8_hangsOver_42 : decode cX8_hangsOver 42 = .ok (.aload_n 2, 1) := by decide +kernel
theorem dX8_hangsOver_43 : decode cX8_hangsOver 43 = .ok (.getfield 70, 3) := by decide +kernel
theorem dX8_hangsOver_46 : decode cX8_hangsOver 46 = .ok (.iload_n 1, 1) := by decide +kernel
theorem dX8_hangsOver_47 : decode cX8_hangsOver 47 = .ok (.iaload, 1) := by decide +kernel
theorem dX8_hangsOver_48 : decode cX8_hangsOver 48 = .ok (.aload_n 2, 1) := by decide +kernel
theorem dX8_hangsOver_49 : decode cX8_hangsOver 49 = .ok (.getfield 74, 3) := by decide +kernel
theorem dX8_hangsOver_52 : decode cX8_hangsOver 52 = .ok (.iload_n 1, 1) := by decide +kernel
theorem dX8_hangsOver_53 : decode cX8_hangsOver 53 = .ok (.iaload, 1) := by decide +kernel
theorem dX8_hangsOver_54 : decode cX8_hangsOver 54 = .ok (.iadd, 1) := by decide +kernel
theorem dX8_hangsOver_55 : decode cX8_hangsOver 55 = .ok (.if_icmp .ge 7, 3) := by decide +kernel
theorem dX8_hangsOver_58 : decode cX8_hangsOver 58 = .ok (.iconst 1, 1) := by decide +kernel
theorem dX8_hangsOver_59 : decode cX8_hangsOver 59 = .ok (.goto 4, 3) := by decide +kernel
theorem dX8_hangsOver_62 : decode cX8_hangsOver 62 = .ok (.iconst 0, 1) := by decide +kernel
theorem dX8_hangsOver_63 : decode cX8_hangsOver 63 = .ok (.ireturn, 1) := by decide +kernel
theorem dX8_sits_0 : decode cX8_sits 0 = .ok (.aload_n 0, 1) := by decide +kernel
theorem dX8_sits_1 : decode cX8_sits 1 = .ok (.getfield 21, 3) := by decide +kernel
theorem dX8_sits_4 : decode cX8_sits 4 = .ok (.getfield 77, 3) := by decide +kernel
theorem dX8_sits_7 : decode cX8_sits 7 = .ok (.astore_n 2, 1) := by decide +kernel
theorem dX8_sits_8 : decode cX8_sits 8 = .ok (.aload_n 2, 1) := by decide +kernel
theorem dX8_sits_9 : decode cX8_sits 9 = .ok (.iload_n 1, 1) := by decide +kernel
theorem dX8_sits_10 : decode cX8_sits 10 = .ok (.invokevirtual 81, 3) := by decide +kernel
theorem dX8_sits_13 : decode cX8_sits 13 = .ok (.ifCond .eq 54, 3) := by decide +kernel
theorem dX8_sits_16 : decode cX8_sits 16 = .ok (.aload_n 0, 1) := by decide +kernel
theorem dX8_sits_17 : decode cX8_sits 17 = .ok (.getfield 39, 3) := by decide +kernel
theorem dX8_sits_20 : decode cX8_sits 20 = .ok (.iload_n 1, 1) := by decide +kernel
theorem dX8_sits_21 : decode cX8_sits 21 = .ok (.baload, 1) := by decide +kernel
theorem dX8_sits_22 : decode cX8_sits 22 = .ok (.ifCond .ne 45, 3) := by decide +kernel
theorem dX8_sits_25 : decode cX8_sits 25 = .ok (.aload_n 0, 1) := by decide +kernel
theorem dX8_sits_26 : decode cX8_sits 26 = .ok (.getfield 42, 3) := by decide +kernel
theorem dX8_sits_29 : decode cX8_sits 29 = .ok (.iload_n 1, 1) := by decide +kernel
theorem dX8_sits_30 : decode cX8_sits 30 = .ok (.baload, 1) := by decide +kernel
theorem dX8_sits_31 : decode cX8_sits 31 = .ok (.ifCond .ne 36, 3) := by decide +kernel
theorem dX8_sits_34 : decode cX8_sits 34 = .ok (.aload_n 0, 1) := by decide +kernel
theorem dX8_sits_35 : decode cX8_sits 35 = .ok (.getfield 45, 3) := by decide +kernel
theorem dX8_sits_38 : decode cX8_sits 38 = .ok (.aload_n 2, 1) := by decide +kernel
theorem dX8_sits_39 : decode cX8_sits 39 = .ok (.getfield 84, 3) := by decide +kernel
theorem dX8_sits_42 : decode cX8_sits 42 = .ok (.iload_n 1, 1) := by decide +kernel
theorem dX8_sits_43 : decode cX8_sits 43 = .ok (.iaload, 1) := by decide +kernel
theorem dX8_sits_44 : decode cX8_sits 44 = .ok (.if_icmp .lt 23, 3) := by decide +kernel
theorem dX8_sits_47 : decode cX8_sits 47 = .ok (.aload_n 0, 1) := by decide +kernel
theorem dX8_sits_48 : decode cX8_sits 48 = .ok (.getfield 45, 3) := by decide +kernel
theorem dX8_sits_51 : decode cX8_sits 51 = .ok (.aload_n 2, 1) := by decide +kernel
theorem dX8_sits_52 : decode cX8_sits 52 = .ok (.getfield 84, 3) := by decide +kernel
theorem dX8_sits_55 : decode cX8_sits 55 = .ok (.iload_n 1, 1) := by decide +kernel
theorem dX8_sits_56 : decode cX8_sits 56 = .ok (.iaload, 1) := by decide +kernel
theorem dX8_sits_57 : decode cX8_sits 57 = .ok (.bipush 8, 2) := by decide +kernel
theorem dX8_sits_59 : decode cX8_sits 59 = .ok (.iadd, 1) := by decide +kernel
theorem dX8_sits_60 : decode cX8_sits 60 = .ok (.if_icmp .ge 7, 3) := by decide +kernel
theorem dX8_sits_63 : decode cX8_sits 63 = .ok (.iconst 1, 1) := by decide +kernel
theorem dX8_sits_64 : decode cX8_sits 64 = .ok (.goto 4, 3) := by decide +kernel
theorem dX8_sits_67 : decode cX8_sits 67 = .ok (.iconst 0, 1) := by decide +kernel
theorem dX8_sits_68 : decode cX8_sits 68 = .ok (.ireturn, 1) := by decide +kernel
theorem dX8_wouldLike_0 : decode cX8_wouldLike 0 = .ok (.aload_n 0, 1) := by decide +kernel
theorem dX8_wouldLike_1 : decode cX8_wouldLike 1 = .ok (.iload_n 1, 1) := by decide +kernel
theorem dX8_wouldLike_2 : decode cX8_wouldLike 2 = .ok (.invokevirtual 85, 3) := by decide +kernel
theorem dX8_wouldLike_5 : decode cX8_wouldLike 5 = .ok (.ifCond .eq 48, 3) := by decide +kernel
theorem dX8_wouldLike_8 : decode cX8_wouldLike 8 = .ok (.aload_n 0, 1) := by decide +kernel
theorem dX8_wouldLike_9 : decode cX8_wouldLike 9 = .ok (.getfield 25, 3) := by decide +kernel
theorem dX8_wouldLike_12 : decode cX8_wouldLike 12 = .ok (.bipush 15, 2) := by decide +kernel
theorem dX8_wouldLike_14 : decode cX8_wouldLike 14 = .ok (.if_icmp .lt 39, 3) := by decide +kernel
theorem dX8_wouldLike_17 : decode cX8_wouldLike 17 = .ok (.iload_n 2, 1) := by decide +kernel
theorem dX8_wouldLike_18 : decode cX8_wouldLike 18 = .ok (.aload_n 0, 1) := by decide +kernel
theorem dX8_wouldLike_19 : decode cX8_wouldLike 19 = .ok (.getfield 21, 3) := by decide +kernel
theorem dX8_wouldLike_22 : decode cX8_wouldLike 22 = .ok (.getfield 77, 3) := by decide +kernel
theorem dX8_wouldLike_25 : decode cX8_wouldLike 25 = .ok (.getfield 88, 3) := by decide +kernel
theorem dX8_wouldLike_28 : decode cX8_wouldLike 28 = .ok (.iload_n 1, 1) := by decide +kernel
theorem dX8_wouldLike_29 : decode cX8_wouldLike 29 = .ok (.iaload, 1) := by decide +kernel
theorem dX8_wouldLike_30 : decode cX8_wouldLike 30 = .ok (.if_icmp .lt 23, 3) := by decide +kernel
theorem dX8_wouldLike_33 : decode cX8_wouldLike 33 = .ok (.iload_n 2, 1) := by decide +kernel
theorem dX8_wouldLike_34 : decode cX8_wouldLike 34 = .ok (.aload_n 0, 1) := by decide +kernel
theorem dX8_wouldLike_35 : decode cX8_wouldLike 35 = .ok (.getfield 21, 3) := by decide +kernel
theorem dX8_wouldLike_38 : decode cX8_wouldLike 38 = .ok (.getfield 77, 3) := by decide +kernel
theorem dX8_wouldLike_41 : decode cX8_wouldLike 41 = .ok (.getfield 91, 3) := by decide +kernel
theorem dX8_wouldLike_44 : decode cX8_wouldLike 44 = .ok (.iload_n 1, 1) := by decide +kernel
theorem dX8_wouldLike_45 : decode cX8_wouldLike 45 = .ok (.iaload, 1) := by decide +kernel
theorem dX8_wouldLike_46 : decode cX8_wouldLike 46 = .ok (.if_icmp .gt 7, 3) := by decide +kernel
theorem dX8_wouldLike_49 : decode cX8_wouldLike 49 = .ok (.iconst 1, 1) := by decide +kernel
theorem dX8_wouldLike_50 : decode cX8_wouldLike 50 = .ok (.goto 4, 3) := by decide +kernel
theorem dX8_wouldLike_53 : decode cX8_wouldLike 53 = .ok (.iconst 0, 1) := by decide +kernel
theorem dX8_wouldLike_54 : decode cX8_wouldLike 54 = .ok (.ireturn, 1) := by decide +kernel
theorem dX8_contentIfSteeped_0 : decode cX8_contentIfSteeped 0 = .ok (.aload_n 0, 1) := by decide +kernel
theorem dX8_contentIfSteeped_1 : decode cX8_contentIfSteeped 1 = .ok (.iload_n 1, 1) := by decide +kernel
theorem dX8_contentIfSteeped_2 : decode cX8_contentIfSteeped 2 = .ok (.invokevirtual 94, 3) := by decide +kernel
theorem dX8_contentIfSteeped_5 : decode cX8_contentIfSteeped 5 = .ok (.istore_n 2, 1) := by decide +kernel
theorem dX8_contentIfSteeped_6 : decode cX8_contentIfSteeped 6 = .ok (.iconst 0, 1) := by decide +kernel
theorem dX8_contentIfSteeped_7 : decode cX8_contentIfSteeped 7 = .ok (.istore_n 3, 1) := by decide +kernel
theorem dX8_contentIfSteeped_8 : decode cX8_contentIfSteeped 8 = .ok (.iconst 0, 1) := by decide +kernel
theorem dX8_contentIfSteeped_9 : decode cX8_contentIfSteeped 9 = .ok (.istore 4, 2) := by decide +kernel
theorem dX8_contentIfSteeped_11 : decode cX8_contentIfSteeped 11 = .ok (.iload 4, 2) := by decide +kernel
theorem dX8_contentIfSteeped_13 : decode cX8_contentIfSteeped 13 = .ok (.aload_n 0, 1) := by decide +kernel
theorem dX8_contentIfSteeped_14 : decode cX8_contentIfSteeped 14 = .ok (.getfield 21, 3) := by decide +kernel
theorem dX8_contentIfSteeped_17 : decode cX8_contentIfSteeped 17 = .ok (.getfield 77, 3) := by decide +kernel
theorem dX8_contentIfSteeped_20 : decode cX8_contentIfSteeped 20 = .ok (.getfield 98, 3) := by decide +kernel
theorem dX8_contentIfSteeped_23 : decode cX8_contentIfSteeped 23 = .ok (.if_icmp .ge 22, 3) := by decide +kernel
theorem dX8_contentIfSteeped_26 : decode cX8_contentIfSteeped 26 = .ok (.iload_n 3, 1) := by decide +kernel
theorem dX8_contentIfSteeped_27 : decode cX8_contentIfSteeped 27 = .ok (.aload_n 0, 1) := by decide +kernel
theorem dX8_contentIfSteeped_28 : decode cX8_contentIfSteeped 28 = .ok (.iload 4, 2) := by decide +kernel
theorem dX8_contentIfSteeped_30 : decode cX8_contentIfSteeped 30 = .ok (.iload_n 2, 1) := by decide +kernel
theorem dX8_contentIfSteeped_31 : decode cX8_contentIfSteeped 31 = .ok (.invokevirtual 101, 3) := by decide +kernel
theorem dX8_contentIfSteeped_34 : decode cX8_contentIfSteeped 34 = .ok (.invokestatic 105, 3) := by decide +kernel
theorem dX8_contentIfSteeped_37 : decode cX8_contentIfSteeped 37 = .ok (.iadd, 1) := by decide +kernel
theorem dX8_contentIfSteeped_38 : decode cX8_contentIfSteeped 38 = .ok (.istore_n 3, 1) := by decide +kernel
theorem dX8_contentIfSteeped_39 : decode cX8_contentIfSteeped 39 = .ok (.iinc 4 1, 3) := by decide +kernel
theorem dX8_contentIfSteeped_42 : decode cX8_contentIfSteeped 42 = .ok (.goto (-31), 3) := by decide +kernel
theorem dX8_contentIfSteeped_45 : decode cX8_contentIfSteeped 45 = .ok (.iload_n 3, 1) := by decide +kernel
theorem dX8_contentIfSteeped_46 : decode cX8_contentIfSteeped 46 = .ok (.ireturn, 1) := by decide +kernel
theorem dX8_strengthWith_0 : decode cX8_strengthWith 0 = .ok (.aload_n 0, 1) := by decide +kernel
theorem dX8_strengthWith_1 : decode cX8_strengthWith 1 = .ok (.getfield 21, 3) := by decide +kernel
theorem dX8_strengthWith_4 : decode cX8_strengthWith 4 = .ok (.getfield 60, 3) := by decide +kernel
theorem dX8_strengthWith_7 : decode cX8_strengthWith 7 = .ok (.iload_n 1, 1) := by decide +kernel
theorem dX8_strengthWith_8 : decode cX8_strengthWith 8 = .ok (.invokevirtual 64, 3) := by decide +kernel
theorem dX8_strengthWith_11 : decode cX8_strengthWith 11 = .ok (.ifCond .eq 18, 3) := by decide +kernel
theorem dX8_strengthWith_14 : decode cX8_strengthWith 14 = .ok (.aload_n 0, 1) := by decide +kernel
theorem dX8_strengthWith_15 : decode cX8_strengthWith 15 = .ok (.getfield 21, 3) := by decide +kernel
theorem dX8_strengthWith_18 : decode cX8_strengthWith 18 = .ok (.getfield 60, 3) := by decide +kernel
theorem dX8_strengthWith_21 : decode cX8_strengthWith 21 = .ok (.getfield 109, 3) := by decide +kernel
theorem dX8_strengthWith_24 : decode cX8_strengthWith 24 = .ok (.iload_n 1, 1) := by decide +kernel
theorem dX8_strengthWith_25 : decode cX8_strengthWith 25 = .ok (.iaload, 1) := by decide +kernel
theorem dX8_strengthWith_26 : decode cX8_strengthWith 26 = .ok (.goto 4, 3) := by decide +kernel
theorem dX8_strengthWith_29 : decode cX8_strengthWith 29 = .ok (.iconst 0, 1) := by decide +kernel
theorem dX8_strengthWith_30 : decode cX8_strengthWith 30 = .ok (.istore_n 2, 1) := by decide +kernel
theorem dX8_strengthWith_31 : decode cX8_strengthWith 31 = .ok (.bipush 30, 2) := by decide +kernel
theorem dX8_strengthWith_33 : decode cX8_strengthWith 33 = .ok (.aload_n 0, 1) := by decide +kernel
theorem dX8_strengthWith_34 : decode cX8_strengthWith 34 = .ok (.getfield 48, 3) := by decide +kernel
theorem dX8_strengthWith_37 : decode cX8_strengthWith 37 = .ok (.iload_n 2, 1) := by decide +kernel
theorem dX8_strengthWith_38 : decode cX8_strengthWith 38 = .ok (.iadd, 1) := by decide +kernel
theorem dX8_strengthWith_39 : decode cX8_strengthWith 39 = .ok (.invokestatic 112, 3) := by decide +kernel
theorem dX8_strengthWith_42 : decode cX8_strengthWith 42 = .ok (.ireturn, 1) := by decide +kernel
theorem dX8_standsFor_0 : decode cX8_standsFor 0 = .ok (.getstatic 118, 3) := by decide +kernel
theorem dX8_standsFor_3 : decode cX8_standsFor 3 = .ok (.aload_n 1, 1) := by decide +kernel
theorem dX8_standsFor_4 : decode cX8_standsFor 4 = .ok (.invokevirtual 123, 3) := by decide +kernel
theorem dX8_standsFor_7 : decode cX8_standsFor 7 = .ok (.iaload, 1) := by decide +kernel
theorem dX8_standsFor_8 : decode cX8_standsFor 8 = .ok (.tableswitch 161 3 14 #[130, 139, 148, 161, 64, 69, 74, 79, 84, 89, 94, 99], 64) := by decide +kernel
theorem dX8_standsFor_72 : decode cX8_standsFor 72 = .ok (.aload_n 0, 1) := by decide +kernel
theorem dX8_standsFor_73 : decode cX8_standsFor 73 = .ok (.getfield 45, 3) := by decide +kernel
theorem dX8_standsFor_76 : decode cX8_standsFor 76 = .ok (.ireturn, 1) := by decide +kernel
theorem dX8_standsFor_77 : decode cX8_standsFor 77 = .ok (.aload_n 0, 1) := by decide +kernel
theorem dX8_standsFor_78 : decode cX8_standsFor 78 = .ok (.getfield 25, 3) := by decide +kernel
theorem dX8_standsFor_81 : decode cX8_standsFor 81 = .ok (.ireturn, 1) := by decide +kernel
theorem dX8_standsFor_82 : decode cX8_standsFor 82 = .ok (.aload_n 0, 1) := by decide +kernel
theorem dX8_standsFor_83 : decode cX8_standsFor 83 = .ok (.getfield 48, 3) := by decide +kernel
theorem dX8_standsFor_86 : decode cX8_standsFor 86 = .ok (.ireturn, 1) := by decide +kernel
theorem dX8_standsFor_87 : decode cX8_standsFor 87 = .ok (.aload_n 0, 1) := by decide +kernel
theorem dX8_standsFor_88 : decode cX8_standsFor 88 = .ok (.getfield 51, 3) := by decide +kernel
theorem dX8_standsFor_91 : decode cX8_standsFor 91 = .ok (.ireturn, 1) := by decide +kernel
theorem dX8_standsFor_92 : decode cX8_standsFor 92 = .ok (.aload_n 0, 1) := by decide +kernel
theorem dX8_standsFor_93 : decode cX8_standsFor 93 = .ok (.getfield 29, 3) := by decide +kernel
theorem dX8_standsFor_96 : decode cX8_standsFor 96 = .ok (.ireturn, 1) := by decide +kernel
theorem dX8_standsFor_97 : decode cX8_standsFor 97 = .ok (.aload_n 0, 1) := by decide +kernel
theorem dX8_standsFor_98 : decode cX8_standsFor 98 = .ok (.getfield 32, 3) := by decide +kernel
theorem dX8_standsFor_101 : decode cX8_standsFor 101 = .ok (.ireturn, 1) := by decide +kernel
theorem dX8_standsFor_102 : decode cX8_standsFor 102 = .ok (.aload_n 0, 1) := by decide +kernel
theorem dX8_standsFor_103 : decode cX8_standsFor 103 = .ok (.getfield 57, 3) := by decide +kernel
theorem dX8_standsFor_106 : decode cX8_standsFor 106 = .ok (.ireturn, 1) := by decide +kernel
theorem dX8_standsFor_107 : decode cX8_standsFor 107 = .ok (.aload_n 0, 1) := by decide +kernel
theorem dX8_standsFor_108 : decode cX8_standsFor 108 = .ok (.getfield 21, 3) := by decide +kernel
theorem dX8_standsFor_111 : decode cX8_standsFor 111 = .ok (.getfield 60, 3) := by decide +kernel
theorem dX8_standsFor_114 : decode cX8_standsFor 114 = .ok (.iload_n 2, 1) := by decide +kernel
theorem dX8_standsFor_115 : decode cX8_standsFor 115 = .ok (.invokevirtual 64, 3) := by decide +kernel
theorem dX8_standsFor_118 : decode cX8_standsFor 118 = .ok (.ifCond .eq 18, 3) := by decide +kernel
theorem dX8_standsFor_121 : decode cX8_standsFor 121 = .ok (.aload_n 0, 1) := by decide +kernel
theorem dX8_standsFor_122 : decode cX8_standsFor 122 = .ok (.getfield 21, 3) := by decide +kernel
theorem dX8_standsFor_125 : decode cX8_standsFor 125 = .ok (.getfield 60, 3) := by decide +kernel
theorem dX8_standsFor_128 : decode cX8_standsFor 128 = .ok (.getfield 109, 3) := by decide +kernel
theorem dX8_standsFor_131 : decode cX8_standsFor 131 = .ok (.iload_n 2, 1) := by decide +kernel
theorem dX8_standsFor_132 : decode cX8_standsFor 132 = .ok (.iaload, 1) := by decide +kernel
theorem dX8_standsFor_133 : decode cX8_standsFor 133 = .ok (.goto 4, 3) := by decide +kernel
theorem dX8_standsFor_136 : decode cX8_standsFor 136 = .ok (.iconst 0, 1) := by decide +kernel
theorem dX8_standsFor_137 : decode cX8_standsFor 137 = .ok (.ireturn, 1) := by decide +kernel
theorem dX8_standsFor_138 : decode cX8_standsFor 138 = .ok (.aload_n 0, 1) := by decide +kernel
theorem dX8_standsFor_139 : decode cX8_standsFor 139 = .ok (.iload_n 2, 1) := by decide +kernel
theorem dX8_standsFor_140 : decode cX8_standsFor 140 = .ok (.invokevirtual 129, 3) := by decide +kernel
theorem dX8_standsFor_143 : decode cX8_standsFor 143 = .ok (.invokestatic 105, 3) := by decide +kernel
theorem dX8_standsFor_146 : decode cX8_standsFor 146 = .ok (.ireturn, 1) := by decide +kernel
theorem dX8_standsFor_147 : decode cX8_standsFor 147 = .ok (.aload_n 0, 1) := by decide +kernel
theorem dX8_standsFor_148 : decode cX8_standsFor 148 = .ok (.iload_n 2, 1) := by decide +kernel
theorem dX8_standsFor_149 : decode cX8_standsFor 149 = .ok (.invokevirtual 85, 3) := by decide +kernel
theorem dX8_standsFor_152 : decode cX8_standsFor 152 = .ok (.invokestatic 105, 3) := by decide +kernel
theorem dX8_standsFor_155 : decode cX8_standsFor 155 = .ok (.ireturn, 1) := by decide +kernel
theorem dX8_standsFor_156 : decode cX8_standsFor 156 = .ok (.aload_n 0, 1) := by decide +kernel
theorem dX8_standsFor_157 : decode cX8_standsFor 157 = .ok (.iload_n 2, 1) := by decide +kernel
theorem dX8_standsFor_158 : decode cX8_standsFor 158 = .ok (.aload_n 0, 1) := by decide +kernel
theorem dX8_standsFor_159 : decode cX8_standsFor 159 = .ok (.getfield 48, 3) := by decide +kernel
theorem dX8_standsFor_162 : decode cX8_standsFor 162 = .ok (.invokevirtual 101, 3) := by decide +kernel
theorem dX8_standsFor_165 : decode cX8_standsFor 165 = .ok (.invokestatic 105, 3) := by decide +kernel
theorem dX8_standsFor_168 : decode cX8_standsFor 168 = .ok (.ireturn, 1) := by decide +kernel
theorem dX8_standsFor_169 : decode cX8_standsFor 169 = .ok (.iconst 0, 1) := by decide +kernel
theorem dX8_standsFor_170 : decode cX8_standsFor 170 = .ok (.ireturn, 1) := by decide +kernel
theorem dX8_steepFront_0 : decode cX8_steepFront 0 = .ok (.aload_n 0, 1) := by decide +kernel
theorem dX8_steepFront_1 : decode cX8_steepFront 1 = .ok (.iload_n 1, 1) := by decide +kernel
theorem dX8_steepFront_2 : decode cX8_steepFront 2 = .ok (.invokevirtual 129, 3) := by decide +kernel
theorem dX8_steepFront_5 : decode cX8_steepFront 5 = .ok (.ifCond .ne 5, 3) := by decide +kernel
theorem dX8_steepFront_8 : decode cX8_steepFront 8 = .ok (.iconst 0, 1) := by decide +kernel
theorem dX8_steepFront_9 : decode cX8_steepFront 9 = .ok (.ireturn, 1) := by decide +kernel
theorem dX8_steepFront_10 : decode cX8_steepFront 10 = .ok (.aload_n 0, 1) := by decide +kernel
theorem dX8_steepFront_11 : decode cX8_steepFront 11 = .ok (.aload_n 0, 1) := by decide +kernel
theorem dX8_steepFront_12 : decode cX8_steepFront 12 = .ok (.iload_n 1, 1) := by decide +kernel
theorem dX8_steepFront_13 : decode cX8_steepFront 13 = .ok (.invokevirtual 94, 3) := by decide +kernel
theorem dX8_steepFront_16 : decode cX8_steepFront 16 = .ok (.putfield 48, 3) := by decide +kernel
theorem dX8_steepFront_19 : decode cX8_steepFront 19 = .ok (.aload_n 0, 1) := by decide +kernel
theorem dX8_steepFront_20 : decode cX8_steepFront 20 = .ok (.getfield 35, 3) := by decide +kernel
theorem dX8_steepFront_23 : decode cX8_steepFront 23 = .ok (.iload_n 1, 1) := by decide +kernel
theorem dX8_steepFront_24 : decode cX8_steepFront 24 = .ok (.iconst 1, 1) := by decide +kernel
theorem dX8_steepFront_25 : decode cX8_steepFront 25 = .ok (.bastore, 1) := by decide +kernel
theorem dX8_steepFront_26 : decode cX8_steepFront 26 = .ok (.iconst 1, 1) := by decide +kernel
theorem dX8_steepFront_27 : decode cX8_steepFront 27 = .ok (.ireturn, 1) := by decide +kernel
theorem dX8_squeezeLemon_0 : decode cX8_squeezeLemon 0 = .ok (.aload_n 0, 1) := by decide +kernel
theorem dX8_squeezeLemon_1 : decode cX8_squeezeLemon 1 = .ok (.getfield 29, 3) := by decide +kernel
theorem dX8_squeezeLemon_4 : decode cX8_squeezeLemon 4 = .ok (.ifCond .gt 5, 3) := by decide +kernel
theorem dX8_squeezeLemon_7 : decode cX8_squeezeLemon 7 = .ok (.iconst 0, 1) := by decide +kernel
theorem dX8_squeezeLemon_8 : decode cX8_squeezeLemon 8 = .ok (.ireturn, 1) := by decide +kernel
theorem dX8_squeezeLemon_9 : decode cX8_squeezeLemon 9 = .ok (.aload_n 0, 1) := by decide +kernel
theorem dX8_squeezeLemon_10 : decode cX8_squeezeLemon 10 = .ok (.dup, 1) := by decide +kernel
theorem dX8_squeezeLemon_11 : decode cX8_squeezeLemon 11 = .ok (.getfield 29, 3) := by decide +kernel
theorem dX8_squeezeLemon_14 : decode cX8_squeezeLemon 14 = .ok (.iconst 1, 1) := by decide +kernel
theorem dX8_squeezeLemon_15 : decode cX8_squeezeLemon 15 = .ok (.isub, 1) := by decide +kernel
theorem dX8_squeezeLemon_16 : decode cX8_squeezeLemon 16 = .ok (.putfield 29, 3) := by decide +kernel
theorem dX8_squeezeLemon_19 : decode cX8_squeezeLemon 19 = .ok (.aload_n 0, 1) := by decide +kernel
theorem dX8_squeezeLemon_20 : decode cX8_squeezeLemon 20 = .ok (.bipush 30, 2) := by decide +kernel
theorem dX8_squeezeLemon_22 : decode cX8_squeezeLemon 22 = .ok (.aload_n 0, 1) := by decide +kernel
theorem dX8_squeezeLemon_23 : decode cX8_squeezeLemon 23 = .ok (.getfield 51, 3) := by decide +kernel
theorem dX8_squeezeLemon_26 : decode cX8_squeezeLemon 26 = .ok (.bipush 6, 2) := by decide +kernel
theorem dX8_squeezeLemon_28 : decode cX8_squeezeLemon 28 = .ok (.iadd, 1) := by decide +kernel
theorem dX8_squeezeLemon_29 : decode cX8_squeezeLemon 29 = .ok (.invokestatic 112, 3) := by decide +kernel
theorem dX8_squeezeLemon_32 : decode cX8_squeezeLemon 32 = .ok (.putfield 51, 3) := by decide +kernel
theorem dX8_squeezeLemon_35 : decode cX8_squeezeLemon 35 = .ok (.iconst 1, 1) := by decide +kernel
theorem dX8_squeezeLemon_36 : decode cX8_squeezeLemon 36 = .ok (.ireturn, 1) := by decide +kernel
theorem dX8_putSaucer_0 : decode cX8_putSaucer 0 = .ok (.aload_n 0, 1) := by decide +kernel
theorem dX8_putSaucer_1 : decode cX8_putSaucer 1 = .ok (.getfield 32, 3) := by decide +kernel
theorem dX8_putSaucer_4 : decode cX8_putSaucer 4 = .ok (.ifCond .gt 5, 3) := by decide +kernel
theorem dX8_putSaucer_7 : decode cX8_putSaucer 7 = .ok (.iconst 0, 1) := by decide +kernel
theorem dX8_putSaucer_8 : decode cX8_putSaucer 8 = .ok (.ireturn, 1) := by decide +kernel
theorem dX8_putSaucer_9 : decode cX8_putSaucer 9 = .ok (.aload_n 0, 1) := by decide +kernel
theorem dX8_putSaucer_10 : decode cX8_putSaucer 10 = .ok (.dup, 1) := by decide +kernel
theorem dX8_putSaucer_11 : decode cX8_putSaucer 11 = .ok (.getfield 32, 3) := by decide +kernel
theorem dX8_putSaucer_14 : decode cX8_putSaucer 14 = .ok (.iconst 1, 1) := by decide +kernel
theorem dX8_putSaucer_15 : decode cX8_putSaucer 15 = .ok (.isub, 1) := by decide +kernel
theorem dX8_putSaucer_16 : decode cX8_putSaucer 16 = .ok (.putfield 32, 3) := by decide +kernel
theorem dX8_putSaucer_19 : decode cX8_putSaucer 19 = .ok (.aload_n 0, 1) := by decide +kernel
theorem dX8_putSaucer_20 : decode cX8_putSaucer 20 = .ok (.iconst 0, 1) := by decide +kernel
theorem dX8_putSaucer_21 : decode cX8_putSaucer 21 = .ok (.aload_n 0, 1) := by decide +kernel
theorem dX8_putSaucer_22 : decode cX8_putSaucer 22 = .ok (.getfield 51, 3) := by decide +kernel
theorem dX8_putSaucer_25 : decode cX8_putSaucer 25 = .ok (.iconst 5, 1) := by decide +kernel
theorem dX8_putSaucer_26 : decode cX8_putSaucer 26 = .ok (.isub, 1) := by decide +kernel
theorem dX8_putSaucer_27 : decode cX8_putSaucer 27 = .ok (.invokestatic 132, 3) := by decide +kernel
theorem dX8_putSaucer_30 : decode cX8_putSaucer 30 = .ok (.putfield 51, 3) := by decide +kernel
theorem dX8_putSaucer_33 : decode cX8_putSaucer 33 = .ok (.iconst 1, 1) := by decide +kernel
theorem dX8_putSaucer_34 : decode cX8_putSaucer 34 = .ok (.ireturn, 1) := by decide +kernel
theorem dX8_serveGuest_0 : decode cX8_serveGuest 0 = .ok (.aload_n 0, 1) := by decide +kernel
theorem dX8_serveGuest_1 : decode cX8_serveGuest 1 = .ok (.iload_n 1, 1) := by decide +kernel
theorem dX8_serveGuest_2 : decode cX8_serveGuest 2 = .ok (.aload_n 0, 1) := by decide +kernel
theorem dX8_serveGuest_3 : decode cX8_serveGuest 3 = .ok (.getfield 48, 3) := by decide +kernel
theorem dX8_serveGuest_6 : decode cX8_serveGuest 6 = .ok (.invokevirtual 101, 3) := by decide +kernel
theorem dX8_serveGuest_9 : decode cX8_serveGuest 9 = .ok (.ifCond .ne 5, 3) := by decide +kernel
theorem dX8_serveGuest_12 : decode cX8_serveGuest 12 = .ok (.iconst 0, 1) := by decide +kernel
theorem dX8_serveGuest_13 : decode cX8_serveGuest 13 = .ok (.ireturn, 1) := by decide +kernel
theorem dX8_serveGuest_14 : decode cX8_serveGuest 14 = .ok (.aload_n 0, 1) := by decide +kernel
theorem dX8_serveGuest_15 : decode cX8_serveGuest 15 = .ok (.dup, 1) := by decide +kernel
theorem dX8_serveGuest_16 : decode cX8_serveGuest 16 = .ok (.getfield 54, 3) := by decide +kernel
theorem dX8_serveGuest_19 : decode cX8_serveGuest 19 = .ok (.aload_n 0, 1) := by decide +kernel
theorem dX8_serveGuest_20 : decode cX8_serveGuest 20 = .ok (.getfield 48, 3) := by decide +kernel
theorem dX8_serveGuest_23 : decode cX8_serveGuest 23 = .ok (.iadd, 1) := by decide +kernel
theorem dX8_serveGuest_24 : decode cX8_serveGuest 24 = .ok (.putfield 54, 3) := by decide +kernel
theorem dX8_serveGuest_27 : decode cX8_serveGuest 27 = .ok (.aload_n 0, 1) := by decide +kernel
