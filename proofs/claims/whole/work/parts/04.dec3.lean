theorem dX14_feed_55 : decode cX14_feed 55 = .ok (.aload 7, 2) := by decide +kernel
theorem dX14_feed_57 : decode cX14_feed 57 = .ok (.arraylength, 1) := by decide +kernel
theorem dX14_feed_58 : decode cX14_feed 58 = .ok (.istore 8, 2) := by decide +kernel
theorem dX14_feed_60 : decode cX14_feed 60 = .ok (.iconst 0, 1) := by decide +kernel
theorem dX14_feed_61 : decode cX14_feed 61 = .ok (.istore 9, 2) := by decide +kernel
theorem dX14_feed_63 : decode cX14_feed 63 = .ok (.iload 9, 2) := by decide +kernel
theorem dX14_feed_65 : decode cX14_feed 65 = .ok (.iload 8, 2) := by decide +kernel
theorem dX14_feed_67 : decode cX14_feed 67 = .ok (.if_icmp .ge 59, 3) := by decide +kernel
theorem dX14_feed_70 : decode cX14_feed 70 = .ok (.aload 7, 2) := by decide +kernel
theorem dX14_feed_72 : decode cX14_feed 72 = .ok (.iload 9, 2) := by decide +kernel
theorem dX14_feed_74 : decode cX14_feed 74 = .ok (.iaload, 1) := by decide +kernel
theorem dX14_feed_75 : decode cX14_feed 75 = .ok (.istore 10, 2) := by decide +kernel
theorem dX14_feed_77 : decode cX14_feed 77 = .ok (.bipush 24, 2) := by decide +kernel
theorem dX14_feed_79 : decode cX14_feed 79 = .ok (.istore 11, 2) := by decide +kernel
theorem dX14_feed_81 : decode cX14_feed 81 = .ok (.iload 11, 2) := by decide +kernel
theorem dX14_feed_83 : decode cX14_feed 83 = .ok (.ifCond .lt 37, 3) := by decide +kernel
theorem dX14_feed_86 : decode cX14_feed 86 = .ok (.aload_n 0, 1) := by decide +kernel
theorem dX14_feed_87 : decode cX14_feed 87 = .ok (.getfield 9, 3) := by decide +kernel
theorem dX14_feed_90 : decode cX14_feed 90 = .ok (.aload_n 0, 1) := by decide +kernel
theorem dX14_feed_91 : decode cX14_feed 91 = .ok (.getfield 76, 3) := by decide +kernel
theorem dX14_feed_94 : decode cX14_feed 94 = .ok (.iload 10, 2) := by decide +kernel
theorem dX14_feed_96 : decode cX14_feed 96 = .ok (.iload 11, 2) := by decide +kernel
theorem dX14_feed_98 : decode cX14_feed 98 = .ok (.ishr, 1) := by decide +kernel
theorem dX14_feed_99 : decode cX14_feed 99 = .ok (.sipush 255, 3) := by decide +kernel
theorem dX14_feed_102 : decode cX14_feed 102 = .ok (.iand, 1) := by decide +kernel
theorem dX14_feed_103 : decode cX14_feed 103 = .ok (.iastore, 1) := by decide +kernel
theorem dX14_feed_104 : decode cX14_feed 104 = .ok (.aload_n 0, 1) := by decide +kernel
theorem dX14_feed_105 : decode cX14_feed 105 = .ok (.dup, 1) := by decide +kernel
theorem dX14_feed_106 : decode cX14_feed 106 = .ok (.getfield 76, 3) := by decide +kernel
theorem dX14_feed_109 : decode cX14_feed 109 = .ok (.iconst 1, 1) := by decide +kernel
theorem dX14_feed_110 : decode cX14_feed 110 = .ok (.iadd, 1) := by decide +kernel
theorem dX14_feed_111 : decode cX14_feed 111 = .ok (.putfield 76, 3) := by decide +kernel
theorem dX14_feed_114 : decode cX14_feed 114 = .ok (.iinc 11 (-8), 3) := by decide +kernel
theorem dX14_feed_117 : decode cX14_feed 117 = .ok (.goto (-36), 3) := by decide +kernel
theorem dX14_feed_120 : decode cX14_feed 120 = .ok (.iinc 9 1, 3) := by decide +kernel
theorem dX14_feed_123 : decode cX14_feed 123 = .ok (.goto (-60), 3) := by decide +kernel
theorem dX14_feed_126 : decode cX14_feed 126 = .ok (.aload_n 0, 1) := by decide +kernel
theorem dX14_feed_127 : decode cX14_feed 127 = .ok (.getfield 76, 3) := by decide +kernel
theorem dX14_feed_130 : decode cX14_feed 130 = .ok (.ireturn, 1) := by decide +kernel
theorem dX14_trim_0 : decode cX14_trim 0 = .ok (.aload_n 0, 1) := by decide +kernel
theorem dX14_trim_1 : decode cX14_trim 1 = .ok (.iconst 0, 1) := by decide +kernel
theorem dX14_trim_2 : decode cX14_trim 2 = .ok (.putfield 57, 3) := by decide +kernel
theorem dX14_trim_5 : decode cX14_trim 5 = .ok (.iload_n 1, 1) := by decide +kernel
theorem dX14_trim_6 : decode cX14_trim 6 = .ok (.iconst 0, 1) := by decide +kernel
theorem dX14_trim_7 : decode cX14_trim 7 = .ok (.aload_n 0, 1) := by decide +kernel
theorem dX14_trim_8 : decode cX14_trim 8 = .ok (.getfield 76, 3) := by decide +kernel
theorem dX14_trim_11 : decode cX14_trim 11 = .ok (.invokestatic 72, 3) := by decide +kernel
theorem dX14_trim_14 : decode cX14_trim 14 = .ok (.ifCond .ne 9, 3) := by decide +kernel
theorem dX14_trim_17 : decode cX14_trim 17 = .ok (.aload_n 0, 1) := by decide +kernel
theorem dX14_trim_18 : decode cX14_trim 18 = .ok (.iconst 1, 1) := by decide +kernel
theorem dX14_trim_19 : decode cX14_trim 19 = .ok (.invokevirtual 276, 3) := by decide +kernel
theorem dX14_trim_22 : decode cX14_trim 22 = .ok (.ireturn, 1) := by decide +kernel
theorem dX14_trim_23 : decode cX14_trim 23 = .ok (.aload_n 0, 1) := by decide +kernel
theorem dX14_trim_24 : decode cX14_trim 24 = .ok (.iload_n 1, 1) := by decide +kernel
theorem dX14_trim_25 : decode cX14_trim 25 = .ok (.putfield 76, 3) := by decide +kernel
theorem dX14_trim_28 : decode cX14_trim 28 = .ok (.iload_n 1, 1) := by decide +kernel
theorem dX14_trim_29 : decode cX14_trim 29 = .ok (.ireturn, 1) := by decide +kernel
theorem dX14_teach_0 : decode cX14_teach 0 = .ok (.aload_n 0, 1) := by decide +kernel
theorem dX14_teach_1 : decode cX14_teach 1 = .ok (.iconst 0, 1) := by decide +kernel
theorem dX14_teach_2 : decode cX14_teach 2 = .ok (.putfield 57, 3) := by decide +kernel
theorem dX14_teach_5 : decode cX14_teach 5 = .ok (.aload_n 0, 1) := by decide +kernel
theorem dX14_teach_6 : decode cX14_teach 6 = .ok (.iconst 0, 1) := by decide +kernel
theorem dX14_teach_7 : decode cX14_teach 7 = .ok (.putfield 123, 3) := by decide +kernel
theorem dX14_teach_10 : decode cX14_teach 10 = .ok (.aload_n 0, 1) := by decide +kernel
theorem dX14_teach_11 : decode cX14_teach 11 = .ok (.iconst 0, 1) := by decide +kernel
theorem dX14_teach_12 : decode cX14_teach 12 = .ok (.putfield 119, 3) := by decide +kernel
theorem dX14_teach_15 : decode cX14_teach 15 = .ok (.aload_n 0, 1) := by decide +kernel
theorem dX14_teach_16 : decode cX14_teach 16 = .ok (.iconst 0, 1) := by decide +kernel
theorem dX14_teach_17 : decode cX14_teach 17 = .ok (.putfield 126, 3) := by decide +kernel
theorem dX14_teach_20 : decode cX14_teach 20 = .ok (.aload_n 0, 1) := by decide +kernel
theorem dX14_teach_21 : decode cX14_teach 21 = .ok (.iconst 0, 1) := by decide +kernel
theorem dX14_teach_22 : decode cX14_teach 22 = .ok (.putfield 138, 3) := by decide +kernel
theorem dX14_teach_25 : decode cX14_teach 25 = .ok (.aload_n 0, 1) := by decide +kernel
theorem dX14_teach_26 : decode cX14_teach 26 = .ok (.getfield 42, 3) := by decide +kernel
theorem dX14_teach_29 : decode cX14_teach 29 = .ok (.invokevirtual 279, 3) := by decide +kernel
theorem dX14_teach_32 : decode cX14_teach 32 = .ok (.aload_n 0, 1) := by decide +kernel
theorem dX14_teach_33 : decode cX14_teach 33 = .ok (.invokevirtual 282, 3) := by decide +kernel
theorem dX14_teach_36 : decode cX14_teach 36 = .ok (.aload_n 0, 1) := by decide +kernel
theorem dX14_teach_37 : decode cX14_teach 37 = .ok (.getfield 119, 3) := by decide +kernel
theorem dX14_teach_40 : decode cX14_teach 40 = .ok (.ifCond .ne 30, 3) := by decide +kernel
theorem dX14_teach_43 : decode cX14_teach 43 = .ok (.aload_n 0, 1) := by decide +kernel
theorem dX14_teach_44 : decode cX14_teach 44 = .ok (.getfield 17, 3) := by decide +kernel
theorem dX14_teach_47 : decode cX14_teach 47 = .ok (.aload_n 0, 1) := by decide +kernel
theorem dX14_teach_48 : decode cX14_teach 48 = .ok (.getfield 123, 3) := by decide +kernel
theorem dX14_teach_51 : decode cX14_teach 51 = .ok (.iaload, 1) := by decide +kernel
theorem dX14_teach_52 : decode cX14_teach 52 = .ok (.bipush 43, 2) := by decide +kernel
theorem dX14_teach_54 : decode cX14_teach 54 = .ok (.if_icmp .eq 16, 3) := by decide +kernel
theorem dX14_teach_57 : decode cX14_teach 57 = .ok (.aload_n 0, 1) := by decide +kernel
theorem dX14_teach_58 : decode cX14_teach 58 = .ok (.invokevirtual 285, 3) := by decide +kernel
theorem dX14_teach_61 : decode cX14_teach 61 = .ok (.aload_n 0, 1) := by decide +kernel
theorem dX14_teach_62 : decode cX14_teach 62 = .ok (.bipush 63, 2) := by decide +kernel
theorem dX14_teach_64 : decode cX14_teach 64 = .ok (.invokevirtual 165, 3) := by decide +kernel
theorem dX14_teach_67 : decode cX14_teach 67 = .ok (.goto (-31), 3) := by decide +kernel
theorem dX14_teach_70 : decode cX14_teach 70 = .ok (.aload_n 0, 1) := by decide +kernel
theorem dX14_teach_71 : decode cX14_teach 71 = .ok (.iconst 0, 1) := by decide +kernel
theorem dX14_teach_72 : decode cX14_teach 72 = .ok (.putfield 76, 3) := by decide +kernel
theorem dX14_teach_75 : decode cX14_teach 75 = .ok (.aload_n 0, 1) := by decide +kernel
theorem dX14_teach_76 : decode cX14_teach 76 = .ok (.aload_n 0, 1) := by decide +kernel
theorem dX14_teach_77 : decode cX14_teach 77 = .ok (.getfield 126, 3) := by decide +kernel
theorem dX14_teach_80 : decode cX14_teach 80 = .ok (.ifCond .ne 7, 3) := by decide +kernel
theorem dX14_teach_83 : decode cX14_teach 83 = .ok (.iconst (-1), 1) := by decide +kernel
theorem dX14_teach_84 : decode cX14_teach 84 = .ok (.goto 12, 3) := by decide +kernel
theorem dX14_teach_87 : decode cX14_teach 87 = .ok (.aload_n 0, 1) := by decide +kernel
theorem dX14_teach_88 : decode cX14_teach 88 = .ok (.getfield 23, 3) := by decide +kernel
theorem dX14_teach_91 : decode cX14_teach 91 = .ok (.aload_n 0, 1) := by decide +kernel
theorem dX14_teach_92 : decode cX14_teach 92 = .ok (.getfield 129, 3) := by decide +kernel
theorem dX14_teach_95 : decode cX14_teach 95 = .ok (.iaload, 1) := by decide +kernel
theorem dX14_teach_96 : decode cX14_teach 96 = .ok (.putfield 13, 3) := by decide +kernel
theorem dX14_teach_99 : decode cX14_teach 99 = .ok (.aload_n 0, 1) := by decide +kernel
theorem dX14_teach_100 : decode cX14_teach 100 = .ok (.getfield 126, 3) := by decide +kernel
theorem dX14_teach_103 : decode cX14_teach 103 = .ok (.ifCond .eq 8, 3) := by decide +kernel
theorem dX14_teach_106 : decode cX14_teach 106 = .ok (.aload_n 0, 1) := by decide +kernel
theorem dX14_teach_107 : decode cX14_teach 107 = .ok (.getfield 126, 3) := by decide +kernel
theorem dX14_teach_110 : decode cX14_teach 110 = .ok (.ireturn, 1) := by decide +kernel
theorem dX14_teach_111 : decode cX14_teach 111 = .ok (.aload_n 0, 1) := by decide +kernel
theorem dX14_teach_112 : decode cX14_teach 112 = .ok (.getfield 38, 3) := by decide +kernel
theorem dX14_teach_115 : decode cX14_teach 115 = .ok (.aload_n 0, 1) := by decide +kernel
theorem dX14_teach_116 : decode cX14_teach 116 = .ok (.getfield 42, 3) := by decide +kernel
theorem dX14_teach_119 : decode cX14_teach 119 = .ok (.invokevirtual 288, 3) := by decide +kernel
theorem dX14_teach_122 : decode cX14_teach 122 = .ok (.aload_n 0, 1) := by decide +kernel
theorem dX14_teach_123 : decode cX14_teach 123 = .ok (.invokevirtual 54, 3) := by decide +kernel
theorem dX14_teach_126 : decode cX14_teach 126 = .ok (.iconst 0, 1) := by decide +kernel
theorem dX14_teach_127 : decode cX14_teach 127 = .ok (.ireturn, 1) := by decide +kernel
theorem dX14_errorAt_0 : decode cX14_errorAt 0 = .ok (.aload_n 0, 1) := by decide +kernel
theorem dX14_errorAt_1 : decode cX14_errorAt 1 = .ok (.aload_n 0, 1) := by decide +kernel
theorem dX14_errorAt_2 : decode cX14_errorAt 2 = .ok (.getfield 13, 3) := by decide +kernel
theorem dX14_errorAt_5 : decode cX14_errorAt 5 = .ok (.invokevirtual 292, 3) := by decide +kernel
theorem dX14_errorAt_8 : decode cX14_errorAt 8 = .ok (.ireturn, 1) := by decide +kernel
theorem dX14_come_0 : decode cX14_come 0 = .ok (.iconst 0, 1) := by decide +kernel
theorem dX14_come_1 : decode cX14_come 1 = .ok (.istore_n 1, 1) := by decide +kernel
theorem dX14_come_2 : decode cX14_come 2 = .ok (.iload_n 1, 1) := by decide +kernel
theorem dX14_come_3 : decode cX14_come 3 = .ok (.aload_n 0, 1) := by decide +kernel
theorem dX14_come_4 : decode cX14_come 4 = .ok (.getfield 38, 3) := by decide +kernel
theorem dX14_come_7 : decode cX14_come 7 = .ok (.getfield 168, 3) := by decide +kernel
theorem dX14_come_10 : decode cX14_come 10 = .ok (.if_icmp .ge 37, 3) := by decide +kernel
theorem dX14_come_13 : decode cX14_come 13 = .ok (.aload_n 0, 1) := by decide +kernel
theorem dX14_come_14 : decode cX14_come 14 = .ok (.getfield 38, 3) := by decide +kernel
theorem dX14_come_17 : decode cX14_come 17 = .ok (.getfield 232, 3) := by decide +kernel
theorem dX14_come_20 : decode cX14_come 20 = .ok (.iload_n 1, 1) := by decide +kernel
theorem dX14_come_21 : decode cX14_come 21 = .ok (.iaload, 1) := by decide +kernel
theorem dX14_come_22 : decode cX14_come 22 = .ok (.aload_n 0, 1) := by decide +kernel
theorem dX14_come_23 : decode cX14_come 23 = .ok (.getfield 48, 3) := by decide +kernel
theorem dX14_come_26 : decode cX14_come 26 = .ok (.iconst 0, 1) := by decide +kernel
theorem dX14_come_27 : decode cX14_come 27 = .ok (.iaload, 1) := by decide +kernel
theorem dX14_come_28 : decode cX14_come 28 = .ok (.if_icmp .ne 13, 3) := by decide +kernel
theorem dX14_come_31 : decode cX14_come 31 = .ok (.aload_n 0, 1) := by decide +kernel
theorem dX14_come_32 : decode cX14_come 32 = .ok (.getfield 48, 3) := by decide +kernel
theorem dX14_come_35 : decode cX14_come 35 = .ok (.bipush 8, 2) := by decide +kernel
theorem dX14_come_37 : decode cX14_come 37 = .ok (.iload_n 1, 1) := by decide +kernel
theorem dX14_come_38 : decode cX14_come 38 = .ok (.iadd, 1) := by decide +kernel
theorem dX14_come_39 : decode cX14_come 39 = .ok (.iconst 1, 1) := by decide +kernel
theorem dX14_come_40 : decode cX14_come 40 = .ok (.iastore, 1) := by decide +kernel
theorem dX14_come_41 : decode cX14_come 41 = .ok (.iinc 1 1, 3) := by decide +kernel
theorem dX14_come_44 : decode cX14_come 44 = .ok (.goto (-42), 3) := by decide +kernel
theorem dX14_come_47 : decode cX14_come 47 = .ok (.iconst 0, 1) := by decide +kernel
theorem dX14_come_48 : decode cX14_come 48 = .ok (.istore_n 1, 1) := by decide +kernel
theorem dX14_come_49 : decode cX14_come 49 = .ok (.iload_n 1, 1) := by decide +kernel
theorem dX14_come_50 : decode cX14_come 50 = .ok (.aload_n 0, 1) := by decide +kernel
theorem dX14_come_51 : decode cX14_come 51 = .ok (.getfield 38, 3) := by decide +kernel
theorem dX14_come_54 : decode cX14_come 54 = .ok (.getfield 174, 3) := by decide +kernel
theorem dX14_come_57 : decode cX14_come 57 = .ok (.if_icmp .ge 37, 3) := by decide +kernel
theorem dX14_come_60 : decode cX14_come 60 = .ok (.aload_n 0, 1) := by decide +kernel
theorem dX14_come_61 : decode cX14_come 61 = .ok (.getfield 38, 3) := by decide +kernel
theorem dX14_come_64 : decode cX14_come 64 = .ok (.getfield 238, 3) := by decide +kernel
theorem dX14_come_67 : decode cX14_come 67 = .ok (.iload_n 1, 1) := by decide +kernel
theorem dX14_come_68 : decode cX14_come 68 = .ok (.iaload, 1) := by decide +kernel
theorem dX14_come_69 : decode cX14_come 69 = .ok (.aload_n 0, 1) := by decide +kernel
theorem dX14_come_70 : decode cX14_come 70 = .ok (.getfield 48, 3) := by decide +kernel
theorem dX14_come_73 : decode cX14_come 73 = .ok (.iconst 0, 1) := by decide +kernel
theorem dX14_come_74 : decode cX14_come 74 = .ok (.iaload, 1) := by decide +kernel
theorem dX14_come_75 : decode cX14_come 75 = .ok (.if_icmp .ne 13, 3) := by decide +kernel
theorem dX14_come_78 : decode cX14_come 78 = .ok (.aload_n 0, 1) := by decide +kernel
theorem dX14_come_79 : decode cX14_come 79 = .ok (.getfield 48, 3) := by decide +kernel
theorem dX14_come_82 : decode cX14_come 82 = .ok (.bipush 28, 2) := by decide +kernel
theorem dX14_come_84 : decode cX14_come 84 = .ok (.iload_n 1, 1) := by decide +kernel
theorem dX14_come_85 : decode cX14_come 85 = .ok (.iadd, 1) := by decide +kernel
theorem dX14_come_86 : decode cX14_come 86 = .ok (.iconst 1, 1) := by decide +kernel
theorem dX14_come_87 : decode cX14_come 87 = .ok (.iastore, 1) := by decide +kernel
theorem dX14_come_88 : decode cX14_come 88 = .ok (.iinc 1 1, 3) := by decide +kernel
theorem dX14_come_91 : decode cX14_come 91 = .ok (.goto (-42), 3) := by decide +kernel
theorem dX14_come_94 : decode cX14_come 94 = .ok (.return_, 1) := by decide +kernel
theorem dX14_likes_0 : decode cX14_likes 0 = .ok (.aload_n 0, 1) := by decide +kernel
theorem dX14_likes_1 : decode cX14_likes 1 = .ok (.getfield 48, 3) := by decide +kernel
theorem dX14_likes_4 : decode cX14_likes 4 = .ok (.bipush 28, 2) := by decide +kernel
theorem dX14_likes_6 : decode cX14_likes 6 = .ok (.iload_n 1, 1) := by decide +kernel
theorem dX14_likes_7 : decode cX14_likes 7 = .ok (.iadd, 1) := by decide +kernel
theorem dX14_likes_8 : decode cX14_likes 8 = .ok (.iaload, 1) := by decide +kernel
theorem dX14_likes_9 : decode cX14_likes 9 = .ok (.iconst 1, 1) := by decide +kernel
theorem dX14_likes_10 : decode cX14_likes 10 = .ok (.if_icmp .ne 48, 3) := by decide +kernel
theorem dX14_likes_13 : decode cX14_likes 13 = .ok (.aload_n 0, 1) := by decide +kernel
theorem dX14_likes_14 : decode cX14_likes 14 = .ok (.getfield 48, 3) := by decide +kernel
theorem dX14_likes_17 : decode cX14_likes 17 = .ok (.iconst 2, 1) := by decide +kernel
theorem dX14_likes_18 : decode cX14_likes 18 = .ok (.iaload, 1) := by decide +kernel
theorem dX14_likes_19 : decode cX14_likes 19 = .ok (.aload_n 0, 1) := by decide +kernel
theorem dX14_likes_20 : decode cX14_likes 20 = .ok (.getfield 38, 3) := by decide +kernel
theorem dX14_likes_23 : decode cX14_likes 23 = .ok (.getfield 241, 3) := by decide +kernel
theorem dX14_likes_26 : decode cX14_likes 26 = .ok (.iload_n 1, 1) := by decide +kernel
theorem dX14_likes_27 : decode cX14_likes 27 = .ok (.iaload, 1) := by decide +kernel
theorem dX14_likes_28 : decode cX14_likes 28 = .ok (.aload_n 0, 1) := by decide +kernel
theorem dX14_likes_29 : decode cX14_likes 29 = .ok (.getfield 38, 3) := by decide +kernel
theorem dX14_likes_32 : decode cX14_likes 32 = .ok (.getfield 244, 3) := by decide +kernel
theorem dX14_likes_35 : decode cX14_likes 35 = .ok (.iload_n 1, 1) := by decide +kernel
theorem dX14_likes_36 : decode cX14_likes 36 = .ok (.iaload, 1) := by decide +kernel
theorem dX14_likes_37 : decode cX14_likes 37 = .ok (.invokestatic 72, 3) := by decide +kernel
theorem dX14_likes_40 : decode cX14_likes 40 = .ok (.ifCond .eq 18, 3) := by decide +kernel
theorem dX14_likes_43 : decode cX14_likes 43 = .ok (.aload_n 0, 1) := by decide +kernel
theorem dX14_likes_44 : decode cX14_likes 44 = .ok (.getfield 48, 3) := by decide +kernel
theorem dX14_likes_47 : decode cX14_likes 47 = .ok (.iconst 1, 1) := by decide +kernel
theorem dX14_likes_48 : decode cX14_likes 48 = .ok (.iaload, 1) := by decide +kernel
theorem dX14_likes_49 : decode cX14_likes 49 = .ok (.bipush 15, 2) := by decide +kernel
theorem dX14_likes_51 : decode cX14_likes 51 = .ok (.if_icmp .lt 7, 3) := by decide +kernel
theorem dX14_likes_54 : decode cX14_likes 54 = .ok (.iconst 1, 1) := by decide +kernel
theorem dX14_likes_55 : decode cX14_likes 55 = .ok (.goto 4, 3) := by decide +kernel
theorem dX14_likes_58 : decode cX14_likes 58 = .ok (.iconst 0, 1) := by decide +kernel
theorem dX14_likes_59 : decode cX14_likes 59 = .ok (.ireturn, 1) := by decide +kernel
theorem dX14_canSteep_0 : decode cX14_canSteep 0 = .ok (.aload_n 0, 1) := by decide +kernel
theorem dX14_canSteep_1 : decode cX14_canSteep 1 = .ok (.getfield 48, 3) := by decide +kernel
theorem dX14_canSteep_4 : decode cX14_canSteep 4 = .ok (.bipush 8, 2) := by decide +kernel
theorem dX14_canSteep_6 : decode cX14_canSteep 6 = .ok (.iload_n 1, 1) := by decide +kernel
theorem dX14_canSteep_7 : decode cX14_canSteep 7 = .ok (.iadd, 1) := by decide +kernel
theorem dX14_canSteep_8 : decode cX14_canSteep 8 = .ok (.iaload, 1) := by decide +kernel
theorem dX14_canSteep_9 : decode cX14_canSteep 9 = .ok (.iconst 1, 1) := by decide +kernel
theorem dX14_canSteep_10 : decode cX14_canSteep 10 = .ok (.if_icmp .ne 7, 3) := by decide +kernel
theorem dX14_canSteep_13 : decode cX14_canSteep 13 = .ok (.iconst 1, 1) := by decide +kernel
theorem dX14_canSteep_14 : decode cX14_canSteep 14 = .ok (.goto 4, 3) := by decide +kernel
theorem dX14_canSteep_17 : decode cX14_canSteep 17 = .ok (.iconst 0, 1) := by decide +kernel
theorem dX14_canSteep_18 : decode cX14_canSteep 18 = .ok (.ireturn, 1) := by decide +kernel
theorem dX14_steepIt_0 : decode cX14_steepIt 0 = .ok (.aload_n 0, 1) := by decide +kernel
theorem dX14_steepIt_1 : decode cX14_steepIt 1 = .ok (.getfield 48, 3) := by decide +kernel
theorem dX14_steepIt_4 : decode cX14_steepIt 4 = .ok (.iconst 2, 1) := by decide +kernel
theorem dX14_steepIt_5 : decode cX14_steepIt 5 = .ok (.bipush 30, 2) := by decide +kernel
theorem dX14_steepIt_7 : decode cX14_steepIt 7 = .ok (.aload_n 0, 1) := by decide +kernel
theorem dX14_steepIt_8 : decode cX14_steepIt 8 = .ok (.getfield 48, 3) := by decide +kernel
theorem dX14_steepIt_11 : decode cX14_steepIt 11 = .ok (.iconst 2, 1) := by decide +kernel
theorem dX14_steepIt_12 : decode cX14_steepIt 12 = .ok (.iaload, 1) := by decide +kernel
theorem dX14_steepIt_13 : decode cX14_steepIt 13 = .ok (.aload_n 0, 1) := by decide +kernel
theorem dX14_steepIt_14 : decode cX14_steepIt 14 = .ok (.getfield 38, 3) := by decide +kernel
theorem dX14_steepIt_17 : decode cX14_steepIt 17 = .ok (.getfield 226, 3) := by decide +kernel
theorem dX14_steepIt_20 : decode cX14_steepIt 20 = .ok (.iload_n 1, 1) := by decide +kernel
theorem dX14_steepIt_21 : decode cX14_steepIt 21 = .ok (.iaload, 1) := by decide +kernel
theorem dX14_steepIt_22 : decode cX14_steepIt 22 = .ok (.iadd, 1) := by decide +kernel
theorem dX14_steepIt_23 : decode cX14_steepIt 23 = .ok (.invokestatic 60, 3) := by decide +kernel
theorem dX14_steepIt_26 : decode cX14_steepIt 26 = .ok (.iastore, 1) := by decide +kernel
theorem dX14_steepIt_27 : decode cX14_steepIt 27 = .ok (.aload_n 0, 1) := by decide +kernel
theorem dX14_steepIt_28 : decode cX14_steepIt 28 = .ok (.getfield 48, 3) := by decide +kernel
theorem dX14_steepIt_31 : decode cX14_steepIt 31 = .ok (.bipush 8, 2) := by decide +kernel
theorem dX14_steepIt_33 : decode cX14_steepIt 33 = .ok (.iload_n 1, 1) := by decide +kernel
theorem dX14_steepIt_34 : decode cX14_steepIt 34 = .ok (.iadd, 1) := by decide +kernel
theorem dX14_steepIt_35 : decode cX14_steepIt 35 = .ok (.iconst 0, 1) := by decide +kernel
theorem dX14_steepIt_36 : decode cX14_steepIt 36 = .ok (.iastore, 1) := by decide +kernel
theorem dX14_steepIt_37 : decode cX14_steepIt 37 = .ok (.aload_n 0, 1) := by decide +kernel
theorem dX14_steepIt_38 : decode cX14_steepIt 38 = .ok (.getfield 48, 3) := by decide +kernel
theorem dX14_steepIt_41 : decode cX14_steepIt 41 = .ok (.bipush 18, 2) := by decide +kernel
theorem dX14_steepIt_43 : decode cX14_steepIt 43 = .ok (.iload_n 1, 1) := by decide +kernel
theorem dX14_steepIt_44 : decode cX14_steepIt 44 = .ok (.iadd, 1) := by decide +kernel
theorem dX14_steepIt_45 : decode cX14_steepIt 45 = .ok (.iconst 1, 1) := by decide +kernel
theorem dX14_steepIt_46 : decode cX14_steepIt 46 = .ok (.iastore, 1) := by decide +kernel
theorem dX14_steepIt_47 : decode cX14_steepIt 47 = .ok (.return_, 1) := by decide +kernel
theorem dX14_squeeze_0 : decode cX14_squeeze 0 = .ok (.aload_n 0, 1) := by decide +kernel
theorem dX14_squeeze_1 : decode cX14_squeeze 1 = .ok (.getfield 48, 3) := by decide +kernel
theorem dX14_squeeze_4 : decode cX14_squeeze 4 = .ok (.iconst 3, 1) := by decide +kernel
theorem dX14_squeeze_5 : decode cX14_squeeze 5 = .ok (.bipush 30, 2) := by decide +kernel
theorem dX14_squeeze_7 : decode cX14_squeeze 7 = .ok (.aload_n 0, 1) := by decide +kernel
theorem dX14_squeeze_8 : decode cX14_squeeze 8 = .ok (.getfield 48, 3) := by decide +kernel
theorem dX14_squeeze_11 : decode cX14_squeeze 11 = .ok (.iconst 3, 1) := by decide +kernel
theorem dX14_squeeze_12 : decode cX14_squeeze 12 = .ok (.iaload, 1) := by decide +kernel
theorem dX14_squeeze_13 : decode cX14_squeeze 13 = .ok (.bipush 6, 2) := by decide +kernel
theorem dX14_squeeze_15 : decode cX14_squeeze 15 = .ok (.iadd, 1) := by decide +kernel
theorem dX14_squeeze_16 : decode cX14_squeeze 16 = .ok (.invokestatic 60, 3) := by decide +kernel
theorem dX14_squeeze_19 : decode cX14_squeeze 19 = .ok (.iastore, 1) := by decide +kernel
theorem dX14_squeeze_20 : decode cX14_squeeze 20 = .ok (.aload_n 0, 1) := by decide +kernel
theorem dX14_squeeze_21 : decode cX14_squeeze 21 = .ok (.getfield 48, 3) := by decide +kernel
theorem dX14_squeeze_24 : decode cX14_squeeze 24 = .ok (.iconst 4, 1) := by decide +kernel
theorem dX14_squeeze_25 : decode cX14_squeeze 25 = .ok (.dup2, 1) := by decide +kernel
theorem dX14_squeeze_26 : decode cX14_squeeze 26 = .ok (.iaload, 1) := by decide +kernel
theorem dX14_squeeze_27 : decode cX14_squeeze 27 = .ok (.iconst 1, 1) := by decide +kernel
theorem dX14_squeeze_28 : decode cX14_squeeze 28 = .ok (.isub, 1) := by decide +kernel
theorem dX14_squeeze_29 : decode cX14_squeeze 29 = .ok (.iastore, 1) := by decide +kernel
theorem dX14_squeeze_30 : decode cX14_squeeze 30 = .ok (.return_, 1) := by decide +kernel
theorem dX14_calm_0 : decode cX14_calm 0 = .ok (.aload_n 0, 1) := by decide +kernel
theorem dX14_calm_1 : decode cX14_calm 1 = .ok (.getfield 48, 3) := by decide +kernel
theorem dX14_calm_4 : decode cX14_calm 4 = .ok (.iconst 3, 1) := by decide +kernel
theorem dX14_calm_5 : decode cX14_calm 5 = .ok (.iconst 0, 1) := by decide +kernel
theorem dX14_calm_6 : decode cX14_calm 6 = .ok (.aload_n 0, 1) := by decide +kernel
theorem dX14_calm_7 : decode cX14_calm 7 = .ok (.getfield 48, 3) := by decide +kernel
theorem dX14_calm_10 : decode cX14_calm 10 = .ok (.iconst 3, 1) := by decide +kernel
theorem dX14_calm_11 : decode cX14_calm 11 = .ok (.iaload, 1) := by decide +kernel
theorem dX14_calm_12 : decode cX14_calm 12 = .ok (.iconst 5, 1) := by decide +kernel
theorem dX14_calm_13 : decode cX14_calm 13 = .ok (.isub, 1) := by decide +kernel
theorem dX14_calm_14 : decode cX14_calm 14 = .ok (.invokestatic 66, 3) := by decide +kernel
theorem dX14_calm_17 : decode cX14_calm 17 = .ok (.iastore, 1) := by decide +kernel
theorem dX14_calm_18 : decode cX14_calm 18 = .ok (.aload_n 0, 1) := by decide +kernel
theorem dX14_calm_19 : decode cX14_calm 19 = .ok (.getfield 48, 3) := by decide +kernel
theorem dX14_calm_22 : decode cX14_calm 22 = .ok (.iconst 5, 1) := by decide +kernel
theorem dX14_calm_23 : decode cX14_calm 23 = .ok (.dup2, 1) := by decide +kernel
theorem dX14_calm_24 : decode cX14_calm 24 = .ok (.iaload, 1) := by decide +kernel
theorem dX14_calm_25 : decode cX14_calm 25 = .ok (.iconst 1, 1) := by decide +kernel
theorem dX14_calm_26 : decode cX14_calm 26 = .ok (.isub, 1) := by decide +kernel
theorem dX14_calm_27 : decode cX14_calm 27 = .ok (.iastore, 1) := by decide +kernel
theorem dX14_calm_28 : decode cX14_calm 28 = .ok (.return_, 1) := by decide +kernel
theorem dX14_serveIt_0 : decode cX14_serveIt 0 = .ok (.aload_n 0, 1) := by decide +kernel
theorem dX14_serveIt_1 : decode cX14_serveIt 1 = .ok (.getfield 48, 3) := by decide +kernel
theorem dX14_serveIt_4 : decode cX14_serveIt 4 = .ok (.iconst 2, 1) := by decide +kernel
theorem dX14_serveIt_5 : decode cX14_serveIt 5 = .ok (.iaload, 1) := by decide +kernel
theorem dX14_serveIt_6 : decode cX14_serveIt 6 = .ok (.istore_n 2, 1) := by decide +kernel
theorem dX14_serveIt_7 : decode cX14_serveIt 7 = .ok (.aload_n 0, 1) := by decide +kernel
theorem dX14_serveIt_8 : decode cX14_serveIt 8 = .ok (.getfield 48, 3) := by decide +kernel
theorem dX14_serveIt_11 : decode cX14_serveIt 11 = .ok (.bipush 7, 2) := by decide +kernel
theorem dX14_serveIt_13 : decode cX14_serveIt 13 = .ok (.dup2, 1) := by decide +kernel
theorem dX14_serveIt_14 : decode cX14_serveIt 14 = .ok (.iaload, 1) := by decide +kernel
theorem dX14_serveIt_15 : decode cX14_serveIt 15 = .ok (.iload_n 2, 1) := by decide +kernel
theorem dX14_serveIt_16 : decode cX14_serveIt 16 = .ok (.iadd, 1) := by decide +kernel
theorem dX14_serveIt_17 : decode cX14_serveIt 17 = .ok (.iastore, 1) := by decide +kernel
theorem dX14_serveIt_18 : decode cX14_serveIt 18 = .ok (.aload_n 0, 1) := by decide +kernel
theorem dX14_serveIt_19 : decode cX14_serveIt 19 = .ok (.getfield 48, 3) := by decide +kernel
theorem dX14_serveIt_22 : decode cX14_serveIt 22 = .ok (.bipush 28, 2) := by decide +kernel
theorem dX14_serveIt_24 : decode cX14_serveIt 24 = .ok (.iload_n 1, 1) := by decide +kernel
theorem dX14_serveIt_25 : decode cX14_serveIt 25 = .ok (.iadd, 1) := by decide +kernel
theorem dX14_serveIt_26 : decode cX14_serveIt 26 = .ok (.iconst 0, 1) := by decide +kernel
theorem dX14_serveIt_27 : decode cX14_serveIt 27 = .ok (.iastore, 1) := by decide +kernel
theorem dX14_serveIt_28 : decode cX14_serveIt 28 = .ok (.aload_n 0, 1) := by decide +kernel
theorem dX14_serveIt_29 : decode cX14_serveIt 29 = .ok (.getfield 48, 3) := by decide +kernel
theorem dX14_serveIt_32 : decode cX14_serveIt 32 = .ok (.bipush 38, 2) := by decide +kernel
theorem dX14_serveIt_34 : decode cX14_serveIt 34 = .ok (.iload_n 1, 1) := by decide +kernel
theorem dX14_serveIt_35 : decode cX14_serveIt 35 = .ok (.iadd, 1) := by decide +kernel
theorem dX14_serveIt_36 : decode cX14_serveIt 36 = .ok (.iconst 1, 1) := by decide +kernel
theorem dX14_serveIt_37 : decode cX14_serveIt 37 = .ok (.iastore, 1) := by decide +kernel
theorem dX14_serveIt_38 : decode cX14_serveIt 38 = .ok (.aload_n 0, 1) := by decide +kernel
theorem dX14_serveIt_39 : decode cX14_serveIt 39 = .ok (.getfield 48, 3) := by decide +kernel
theorem dX14_serveIt_42 : decode cX14_serveIt 42 = .ok (.iconst 2, 1) := by decide +kernel
theorem dX14_serveIt_43 : decode cX14_serveIt 43 = .ok (.iconst 0, 1) := by decide +kernel
theorem dX14_serveIt_44 : decode cX14_serveIt 44 = .ok (.iload_n 2, 1) := by decide +kernel
theorem dX14_serveIt_45 : decode cX14_serveIt 45 = .ok (.iconst 3, 1) := by decide +kernel
theorem dX14_serveIt_46 : decode cX14_serveIt 46 = .ok (.isub, 1) := by decide +kernel
theorem dX14_serveIt_47 : decode cX14_serveIt 47 = .ok (.invokestatic 66, 3) := by decide +kernel
theorem dX14_serveIt_50 : decode cX14_serveIt 50 = .ok (.iastore, 1) := by decide +kernel
theorem dX14_serveIt_51 : decode cX14_serveIt 51 = .ok (.iload_n 2, 1) := by decide +kernel
theorem dX14_serveIt_52 : decode cX14_serveIt 52 = .ok (.ireturn, 1) := by decide +kernel
theorem dX14_reckon_0 : decode cX14_reckon 0 = .ok (.iload_n 1, 1) := by decide +kernel
theorem dX14_reckon_1 : decode cX14_reckon 1 = .ok (.bipush 16, 2) := by decide +kernel
theorem dX14_reckon_3 : decode cX14_reckon 3 = .ok (.bipush 21, 2) := by decide +kernel
theorem dX14_reckon_5 : decode cX14_reckon 5 = .ok (.invokestatic 72, 3) := by decide +kernel
theorem dX14_reckon_8 : decode cX14_reckon 8 = .ok (.ifCond .eq 15, 3) := by decide +kernel
theorem dX14_reckon_11 : decode cX14_reckon 11 = .ok (.aload_n 0, 1) := by decide +kernel
theorem dX14_reckon_12 : decode cX14_reckon 12 = .ok (.getfield 48, 3) := by decide +kernel
theorem dX14_reckon_15 : decode cX14_reckon 15 = .ok (.iconst 0, 1) := by decide +kernel
theorem dX14_reckon_16 : decode cX14_reckon 16 = .ok (.iload_n 1, 1) := by decide +kernel
theorem dX14_reckon_17 : decode cX14_reckon 17 = .ok (.iadd, 1) := by decide +kernel
theorem dX14_reckon_18 : decode cX14_reckon 18 = .ok (.bipush 16, 2) := by decide +kernel
theorem dX14_reckon_20 : decode cX14_reckon 20 = .ok (.isub, 1) := by decide +kernel
theorem dX14_reckon_21 : decode cX14_reckon 21 = .ok (.iaload, 1) := by decide +kernel
theorem dX14_reckon_22 : decode cX14_reckon 22 = .ok (.ireturn, 1) := by decide +kernel
theorem dX14_reckon_23 : decode cX14_reckon 23 = .ok (.iload_n 1, 1) := by decide +kernel
theorem dX14_reckon_24 : decode cX14_reckon 24 = .ok (.lookupswitch 147 #[(6, 86), (22, 106), (23, 96), (24, 78), (25, 116), (26, 138), (41, 76), (70, 130)], 76) := by decide +kernel
theorem dX14_reckon_100 : decode cX14_reckon 100 = .ok (.iload_n 2, 1) := by decide +kernel
theorem dX14_reckon_101 : decode cX14_reckon 101 = .ok (.ireturn, 1) := by decide +kernel
theorem dX14_reckon_102 : decode cX14_reckon 102 = .ok (.aload_n 0, 1) := by decide +kernel
theorem dX14_reckon_103 : decode cX14_reckon 103 = .ok (.getfield 48, 3) := by decide +kernel
theorem dX14_reckon_106 : decode cX14_reckon 106 = .ok (.bipush 6, 2) := by decide +kernel
theorem dX14_reckon_108 : decode cX14_reckon 108 = .ok (.iaload, 1) := by decide +kernel
theorem dX14_reckon_109 : decode cX14_reckon 109 = .ok (.ireturn, 1) := by decide +kernel
theorem dX14_reckon_110 : decode cX14_reckon 110 = .ok (.aload_n 0, 1) := by decide +kernel
theorem dX14_reckon_111 : decode cX14_reckon 111 = .ok (.getfield 38, 3) := by decide +kernel
theorem dX14_reckon_114 : decode cX14_reckon 114 = .ok (.getfield 226, 3) := by decide +kernel
theorem dX14_reckon_117 : decode cX14_reckon 117 = .ok (.iload_n 2, 1) := by decide +kernel
theorem dX14_reckon_118 : decode cX14_reckon 118 = .ok (.iaload, 1) := by decide +kernel
theorem dX14_reckon_119 : decode cX14_reckon 119 = .ok (.ireturn, 1) := by decide +kernel
theorem dX14_reckon_120 : decode cX14_reckon 120 = .ok (.aload_n 0, 1) := by decide +kernel
theorem dX14_reckon_121 : decode cX14_reckon 121 = .ok (.getfield 48, 3) := by decide +kernel
theorem dX14_reckon_124 : decode cX14_reckon 124 = .ok (.bipush 8, 2) := by decide +kernel
theorem dX14_reckon_126 : decode cX14_reckon 126 = .ok (.iload_n 2, 1) := by decide +kernel
theorem dX14_reckon_127 : decode cX14_reckon 127 = .ok (.iadd, 1) := by decide +kernel
theorem dX14_reckon_128 : decode cX14_reckon 128 = .ok (.iaload, 1) := by decide +kernel
theorem dX14_reckon_129 : decode cX14_reckon 129 = .ok (.ireturn, 1) := by decide +kernel
theorem dX14_reckon_130 : decode cX14_reckon 130 = .ok (.aload_n 0, 1) := by decide +kernel
theorem dX14_reckon_131 : decode cX14_reckon 131 = .ok (.getfield 48, 3) := by decide +kernel
theorem dX14_reckon_134 : decode cX14_reckon 134 = .ok (.bipush 28, 2) := by decide +kernel
theorem dX14_reckon_136 : decode cX14_reckon 136 = .ok (.iload_n 2, 1) := by decide +kernel
theorem dX14_reckon_137 : decode cX14_reckon 137 = .ok (.iadd, 1) := by decide +kernel
theorem dX14_reckon_138 : decode cX14_reckon 138 = .ok (.iaload, 1) := by decide +kernel
theorem dX14_reckon_139 : decode cX14_reckon 139 = .ok (.ireturn, 1) := by decide +kernel
theorem dX14_reckon_140 : decode cX14_reckon 140 = .ok (.aload_n 0, 1) := by decide +kernel
theorem dX14_reckon_141 : decode cX14_reckon 141 = .ok (.iload_n 2, 1) := by decide +kernel
theorem dX14_reckon_142 : decode cX14_reckon 142 = .ok (.invokevirtual 295, 3) := by decide +kernel
theorem dX14_reckon_145 : decode cX14_reckon 145 = .ok (.ifCond .eq 7, 3) := by decide +kernel
theorem dX14_reckon_148 : decode cX14_reckon 148 = .ok (.iconst 1, 1) := by decide +kernel
theorem dX14_reckon_149 : decode cX14_reckon 149 = .ok (.goto 4, 3) := by decide +kernel
theorem dX14_reckon_152 : decode cX14_reckon 152 = .ok (.iconst 0, 1) := by decide +kernel
theorem dX14_reckon_153 : decode cX14_reckon 153 = .ok (.ireturn, 1) := by decide +kernel
theorem dX14_reckon_154 : decode cX14_reckon 154 = .ok (.aload_n 0, 1) := by decide +kernel
theorem dX14_reckon_155 : decode cX14_reckon 155 = .ok (.getfield 45, 3) := by decide +kernel
theorem dX14_reckon_158 : decode cX14_reckon 158 = .ok (.iload_n 2, 1) := by decide +kernel
theorem dX14_reckon_159 : decode cX14_reckon 159 = .ok (.iaload, 1) := by decide +kernel
theorem dX14_reckon_160 : decode cX14_reckon 160 = .ok (.ineg, 1) := by decide +kernel
theorem dX14_reckon_161 : decode cX14_reckon 161 = .ok (.ireturn, 1) := by decide +kernel
theorem dX14_reckon_162 : decode cX14_reckon 162 = .ok (.iconst 1, 1) := by decide +kernel
theorem dX14_reckon_163 : decode cX14_reckon 163 = .ok (.aload_n 0, 1) := by decide +kernel
theorem dX14_reckon_164 : decode cX14_reckon 164 = .ok (.getfield 45, 3) := by decide +kernel
theorem dX14_reckon_167 : decode cX14_reckon 167 = .ok (.iload_n 2, 1) := by decide +kernel
theorem dX14_reckon_168 : decode cX14_reckon 168 = .ok (.iaload, 1) := by decide +kernel
theorem dX14_reckon_169 : decode cX14_reckon 169 = .ok (.isub, 1) := by decide +kernel
theorem dX14_reckon_170 : decode cX14_reckon 170 = .ok (.ireturn, 1) := by decide +kernel
theorem dX14_reckon_171 : decode cX14_reckon 171 = .ok (.iload_n 1, 1) := by decide +kernel
theorem dX14_reckon_172 : decode cX14_reckon 172 = .ok (.aload_n 0, 1) := by decide +kernel
theorem dX14_reckon_173 : decode cX14_reckon 173 = .ok (.getfield 45, 3) := by decide +kernel
theorem dX14_reckon_176 : decode cX14_reckon 176 = .ok (.iload_n 2, 1) := by decide +kernel
theorem dX14_reckon_177 : decode cX14_reckon 177 = .ok (.iaload, 1) := by decide +kernel
theorem dX14_reckon_178 : decode cX14_reckon 178 = .ok (.aload_n 0, 1) := by decide +kernel
theorem dX14_reckon_179 : decode cX14_reckon 179 = .ok (.getfield 45, 3) := by decide +kernel
theorem dX14_reckon_182 : decode cX14_reckon 182 = .ok (.iload_n 3, 1) := by decide +kernel
theorem dX14_reckon_183 : decode cX14_reckon 183 = .ok (.iaload, 1) := by decide +kernel
theorem dX14_reckon_184 : decode cX14_reckon 184 = .ok (.invokestatic 298, 3) := by decide +kernel
theorem dX14_reckon_187 : decode cX14_reckon 187 = .ok (.ireturn, 1) := by decide +kernel
theorem dX14_joined_0 : decode cX14_joined 0 = .ok (.iload_n 0, 1) := by decide +kernel
theorem dX14_joined_1 : decode cX14_joined 1 = .ok (.tableswitch 227 27 57 #[175, 179, 163, 169, 227, 227, 227, 227, 227, 227, 227, 227, 227, 227, 227, 227, 227, 227, 227, 227, 227, 227, 227, 139, 143, 147, 151, 183, 194, 205, 216], 139) := by decide +kernel
theorem dX14_joined_140 : decode cX14_joined 140 = .ok (.iload_n 1, 1) := by decide +kernel
theorem dX14_joined_141 : decode cX14_joined 141 = .ok (.iload_n 2, 1) := by decide +kernel
theorem dX14_joined_142 : decode cX14_joined 142 = .ok (.iadd, 1) := by decide +kernel
theorem dX14_joined_143 : decode cX14_joined 143 = .ok (.ireturn, 1) := by decide +kernel
theorem dX14_joined_144 : decode cX14_joined 144 = .ok (.iload_n 1, 1) := by decide +kernel
theorem dX14_joined_145 : decode cX14_joined 145 = .ok (.iload_n 2, 1) := by decide +kernel
theorem dX14_joined_146 : decode cX14_joined 146 = .ok (.isub, 1) := by decide +kernel
theorem dX14_joined_147 : decode cX14_joined 147 = .ok (.ireturn, 1) := by decide +kernel
theorem dX14_joined_148 : decode cX14_joined 148 = .ok (.iload_n 1, 1) := by decide +kernel
theorem dX14_joined_149 : decode cX14_joined 149 = .ok (.iload_n 2, 1) := by decide +kernel
theorem dX14_joined_150 : decode cX14_joined 150 = .ok (.imul, 1) := by decide +kernel
theorem dX14_joined_151 : decode cX14_joined 151 = .ok (.ireturn, 1) := by decide +kernel
theorem dX14_joined_152 : decode cX14_joined 152 = .ok (.iload_n 2, 1) := by decide +kernel
theorem dX14_joined_153 : decode cX14_joined 153 = .ok (.ifCond .ne 7, 3) := by decide +kernel
theorem dX14_joined_156 : decode cX14_joined 156 = .ok (.iconst 0, 1) := by decide +kernel
theorem dX14_joined_157 : decode cX14_joined 157 = .ok (.goto 6, 3) := by decide +kernel
theorem dX14_joined_160 : decode cX14_joined 160 = .ok (.iload_n 1, 1) := by decide +kernel
theorem dX14_joined_161 : decode cX14_joined 161 = .ok (.iload_n 2, 1) := by decide +kernel
theorem dX14_joined_162 : decode cX14_joined 162 = .ok (.idiv, 1) := by decide +kernel
theorem dX14_joined_163 : decode cX14_joined 163 = .ok (.ireturn, 1) := by decide +kernel
theorem dX14_joined_164 : decode cX14_joined 164 = .ok (.iload_n 1, 1) := by decide +kernel
theorem dX14_joined_165 : decode cX14_joined 165 = .ok (.iload_n 2, 1) := by decide +kernel
theorem dX14_joined_166 : decode cX14_joined 166 = .ok (.invokestatic 60, 3) := by decide +kernel
theorem dX14_joined_169 : decode cX14_joined 169 = .ok (.ireturn, 1) := by decide +kernel
theorem dX14_joined_170 : decode cX14_joined 170 = .ok (.iload_n 1, 1) := by decide +kernel
theorem dX14_joined_171 : decode cX14_joined 171 = .ok (.iload_n 2, 1) := by decide +kernel
theorem dX14_joined_172 : decode cX14_joined 172 = .ok (.invokestatic 66, 3) := by decide +kernel
theorem dX14_joined_175 : decode cX14_joined 175 = .ok (.ireturn, 1) := by decide +kernel
theorem dX14_joined_176 : decode cX14_joined 176 = .ok (.iload_n 1, 1) := by decide +kernel
theorem dX14_joined_177 : decode cX14_joined 177 = .ok (.iload_n 2, 1) := by decide +kernel
theorem dX14_joined_178 : decode cX14_joined 178 = .ok (.iand, 1) := by decide +kernel
theorem dX14_joined_179 : decode cX14_joined 179 = .ok (.ireturn, 1) := by decide +kernel
theorem dX14_joined_180 : decode cX14_joined 180 = .ok (.iload_n 1, 1) := by decide +kernel
theorem dX14_joined_181 : decode cX14_joined 181 = .ok (.iload_n 2, 1) := by decide +kernel
theorem dX14_joined_182 : decode cX14_joined 182 = .ok (.ior, 1) := by decide +kernel
theorem dX14_joined_183 : decode cX14_joined 183 = .ok (.ireturn, 1) := by decide +kernel
theorem dX14_joined_184 : decode cX14_joined 184 = .ok (.iload_n 1, 1) := by decide +kernel
theorem dX14_joined_185 : decode cX14_joined 185 = .ok (.iload_n 2, 1) := by decide +kernel
theorem dX14_joined_186 : decode cX14_joined 186 = .ok (.if_icmp .ge 7, 3) := by decide +kernel
theorem dX14_joined_189 : decode cX14_joined 189 = .ok (.iconst 1, 1) := by decide +kernel
theorem dX14_joined_190 : decode cX14_joined 190 = .ok (.goto 4, 3) := by decide +kernel
theorem dX14_joined_193 : decode cX14_joined 193 = .ok (.iconst 0, 1) := by decide +kernel
theorem dX14_joined_194 : decode cX14_joined 194 = .ok (.ireturn, 1) := by decide +kernel
theorem dX14_joined_195 : decode cX14_joined 195 = .ok (.iload_n 1, 1) := by decide +kernel
theorem dX14_joined_196 : decode cX14_joined 196 = .ok (.iload_n 2, 1) := by decide +kernel
theorem dX14_joined_197 : decode cX14_joined 197 = .ok (.if_icmp .le 7, 3) := by decide +kernel
theorem dX14_joined_200 : decode cX14_joined 200 = .ok (.iconst 1, 1) := by decide +kernel
theorem dX14_joined_201 : decode cX14_joined 201 = .ok (.goto 4, 3) := by decide +kernel
theorem dX14_joined_204 : decode cX14_joined 204 = .ok (.iconst 0, 1) := by decide +kernel
theorem dX14_joined_205 : decode cX14_joined 205 = .ok (.ireturn, 1) := by decide +kernel
theorem dX14_joined_206 : decode cX14_joined 206 = .ok (.iload_n 1, 1) := by decide +kernel
theorem dX14_joined_207 : decode cX14_joined 207 = .ok (.iload_n 2, 1) := by decide +kernel
theorem dX14_joined_208 : decode cX14_joined 208 = .ok (.if_icmp .ne 7, 3) := by decide +kernel
theorem dX14_joined_211 : decode cX14_joined 211 = .ok (.iconst 1, 1) := by decide +kernel
theorem dX14_joined_212 : decode cX14_joined 212 = .ok (.goto 4, 3) := by decide +kernel
theorem dX14_joined_215 : decode cX14_joined 215 = .ok (.iconst 0, 1) := by decide +kernel
theorem dX14_joined_216 : decode cX14_joined 216 = .ok (.ireturn, 1) := by decide +kernel
theorem dX14_joined_217 : decode cX14_joined 217 = .ok (.iload_n 1, 1) := by decide +kernel
theorem dX14_joined_218 : decode cX14_joined 218 = .ok (.iload_n 2, 1) := by decide +kernel
theorem dX14_joined_219 : decode cX14_joined 219 = .ok (.if_icmp .gt 7, 3) := by decide +kernel
theorem dX14_joined_222 : decode cX14_joined 222 = .ok (.iconst 1, 1) := by decide +kernel
theorem dX14_joined_223 : decode cX14_joined 223 = .ok (.goto 4, 3) := by decide +kernel
theorem dX14_joined_226 : decode cX14_joined 226 = .ok (.iconst 0, 1) := by decide +kernel
theorem dX14_joined_227 : decode cX14_joined 227 = .ok (.ireturn, 1) := by decide +kernel
theorem dX14_joined_228 : decode cX14_joined 228 = .ok (.iload_n 1, 1) := by decide +kernel
theorem dX14_joined_229 : decode cX14_joined 229 = .ok (.iload_n 2, 1) := by decide +kernel
theorem dX14_joined_230 : decode cX14_joined 230 = .ok (.if_icmp .lt 7, 3) := by decide +kernel
theorem dX14_joined_233 : decode cX14_joined 233 = .ok (.iconst 1, 1) := by decide +kernel
theorem dX14_joined_234 : decode cX14_joined 234 = .ok (.goto 4, 3) := by decide +kernel
theorem dX14_joined_237 : decode cX14_joined 237 = .ok (.iconst 0, 1) := by decide +kernel
theorem dX14_joined_238 : decode cX14_joined 238 = .ok (.ireturn, 1) := by decide +kernel
theorem dX14_carryOut_0 : decode cX14_carryOut 0 = .ok (.aload_n 0, 1) := by decide +kernel
theorem dX14_carryOut_1 : decode cX14_carryOut 1 = .ok (.getfield 38, 3) := by decide +kernel
theorem dX14_carryOut_4 : decode cX14_carryOut 4 = .ok (.getfield 259, 3) := by decide +kernel
theorem dX14_carryOut_7 : decode cX14_carryOut 7 = .ok (.iload_n 1, 1) := by decide +kernel
theorem dX14_carryOut_8 : decode cX14_carryOut 8 = .ok (.iaload, 1) := by decide +kernel
theorem dX14_carryOut_9 : decode cX14_carryOut 9 = .ok (.istore_n 2, 1) := by decide +kernel
theorem dX14_carryOut_10 : decode cX14_carryOut 10 = .ok (.iload_n 2, 1) := by decide +kernel
theorem dX14_carryOut_11 : decode cX14_carryOut 11 = .ok (.aload_n 0, 1) := by decide +kernel
theorem dX14_carryOut_12 : decode cX14_carryOut 12 = .ok (.getfield 38, 3) := by decide +kernel
theorem dX14_carryOut_15 : decode cX14_carryOut 15 = .ok (.getfield 264, 3) := by decide +kernel
theorem dX14_carryOut_18 : decode cX14_carryOut 18 = .ok (.iload_n 1, 1) := by decide +kernel
theorem dX14_carryOut_19 : decode cX14_carryOut 19 = .ok (.iaload, 1) := by decide +kernel
theorem dX14_carryOut_20 : decode cX14_carryOut 20 = .ok (.if_icmp .ge 46, 3) := by decide +kernel
theorem dX14_carryOut_23 : decode cX14_carryOut 23 = .ok (.aload_n 0, 1) := by decide +kernel
theorem dX14_carryOut_24 : decode cX14_carryOut 24 = .ok (.getfield 45, 3) := by decide +kernel
theorem dX14_carryOut_27 : decode cX14_carryOut 27 = .ok (.iload_n 2, 1) := by decide +kernel
theorem dX14_carryOut_28 : decode cX14_carryOut 28 = .ok (.aload_n 0, 1) := by decide +kernel
theorem dX14_carryOut_29 : decode cX14_carryOut 29 = .ok (.aload_n 0, 1) := by decide +kernel
theorem dX14_carryOut_30 : decode cX14_carryOut 30 = .ok (.getfield 38, 3) := by decide +kernel
theorem dX14_carryOut_33 : decode cX14_carryOut 33 = .ok (.getfield 144, 3) := by decide +kernel
theorem dX14_carryOut_36 : decode cX14_carryOut 36 = .ok (.iload_n 2, 1) := by decide +kernel
theorem dX14_carryOut_37 : decode cX14_carryOut 37 = .ok (.iaload, 1) := by decide +kernel
theorem dX14_carryOut_38 : decode cX14_carryOut 38 = .ok (.aload_n 0, 1) := by decide +kernel
theorem dX14_carryOut_39 : decode cX14_carryOut 39 = .ok (.getfield 38, 3) := by decide +kernel
theorem dX14_carryOut_42 : decode cX14_carryOut 42 = .ok (.getfield 147, 3) := by decide +kernel
theorem dX14_carryOut_45 : decode cX14_carryOut 45 = .ok (.iload_n 2, 1) := by decide +kernel
theorem dX14_carryOut_46 : decode cX14_carryOut 46 = .ok (.iaload, 1) := by decide +kernel
theorem dX14_carryOut_47 : decode cX14_carryOut 47 = .ok (.aload_n 0, 1) := by decide +kernel
theorem dX14_carryOut_48 : decode cX14_carryOut 48 = .ok (.getfield 38, 3) := by decide +kernel
theorem dX14_carryOut_51 : decode cX14_carryOut 51 = .ok (.getfield 150, 3) := by decide +kernel
theorem dX14_carryOut_54 : decode cX14_carryOut 54 = .ok (.iload_n 2, 1) := by decide +kernel
theorem dX14_carryOut_55 : decode cX14_carryOut 55 = .ok (.iaload, 1) := by decide +kernel
theorem dX14_carryOut_56 : decode cX14_carryOut 56 = .ok (.invokevirtual 301, 3) := by decide +kernel
theorem dX14_carryOut_59 : decode cX14_carryOut 59 = .ok (.iastore, 1) := by decide +kernel
theorem dX14_carryOut_60 : decode cX14_carryOut 60 = .ok (.iinc 2 1, 3) := by decide +kernel
theorem dX14_carryOut_63 : decode cX14_carryOut 63 = .ok (.goto (-53), 3) := by decide +kernel
theorem dX14_carryOut_66 : decode cX14_carryOut 66 = .ok (.aload_n 0, 1) := by decide +kernel
theorem dX14_carryOut_67 : decode cX14_carryOut 67 = .ok (.getfield 38, 3) := by decide +kernel
theorem dX14_carryOut_70 : decode cX14_carryOut 70 = .ok (.getfield 262, 3) := by decide +kernel
theorem dX14_carryOut_73 : decode cX14_carryOut 73 = .ok (.iload_n 1, 1) := by decide +kernel
theorem dX14_carryOut_74 : decode cX14_carryOut 74 = .ok (.iaload, 1) := by decide +kernel
theorem dX14_carryOut_75 : decode cX14_carryOut 75 = .ok (.iconst (-1), 1) := by decide +kernel
theorem dX14_carryOut_76 : decode cX14_carryOut 76 = .ok (.if_icmp .eq 21, 3) := by decide +kernel
theorem dX14_carryOut_79 : decode cX14_carryOut 79 = .ok (.aload_n 0, 1) := by decide +kernel
theorem dX14_carryOut_80 : decode cX14_carryOut 80 = .ok (.getfield 45, 3) := by decide +kernel
theorem dX14_carryOut_83 : decode cX14_carryOut 83 = .ok (.aload_n 0, 1) := by decide +kernel
theorem dX14_carryOut_84 : decode cX14_carryOut 84 = .ok (.getfield 38, 3) := by decide +kernel
theorem dX14_carryOut_87 : decode cX14_carryOut 87 = .ok (.getfield 262, 3) := by decide +kernel
theorem dX14_carryOut_90 : decode cX14_carryOut 90 = .ok (.iload_n 1, 1) := by decide +kernel
theorem dX14_carryOut_91 : decode cX14_carryOut 91 = .ok (.iaload, 1) := by decide +kernel
theorem dX14_carryOut_92 : decode cX14_carryOut 92 = .ok (.iaload, 1) := by decide +kernel
theorem dX14_carryOut_93 : decode cX14_carryOut 93 = .ok (.ifCond .ne 4, 3) := by decide +kernel
theorem dX14_carryOut_96 : decode cX14_carryOut 96 = .ok (.return_, 1) := by decide +kernel
theorem dX14_carryOut_97 : decode cX14_carryOut 97 = .ok (.aload_n 0, 1) := by decide +kernel
theorem dX14_carryOut_98 : decode cX14_carryOut 98 = .ok (.getfield 38, 3) := by decide +kernel
theorem dX14_carryOut_101 : decode cX14_carryOut 101 = .ok (.getfield 256, 3) := by decide +kernel
theorem dX14_carryOut_104 : decode cX14_carryOut 104 = .ok (.iload_n 1, 1) := by decide +kernel
theorem dX14_carryOut_105 : decode cX14_carryOut 105 = .ok (.iaload, 1) := by decide +kernel
theorem dX14_carryOut_106 : decode cX14_carryOut 106 = .ok (.istore_n 2, 1) := by decide +kernel
theorem dX14_carryOut_107 : decode cX14_carryOut 107 = .ok (.aload_n 0, 1) := by decide +kernel
theorem dX14_carryOut_108 : decode cX14_carryOut 108 = .ok (.getfield 38, 3) := by decide +kernel
theorem dX14_carryOut_111 : decode cX14_carryOut 111 = .ok (.getfield 253, 3) := by decide +kernel
theorem dX14_carryOut_114 : decode cX14_carryOut 114 = .ok (.iload_n 1, 1) := by decide +kernel
theorem dX14_carryOut_115 : decode cX14_carryOut 115 = .ok (.iaload, 1) := by decide +kernel
theorem dX14_carryOut_116 : decode cX14_carryOut 116 = .ok (.bipush 11, 2) := by decide +kernel
theorem dX14_carryOut_118 : decode cX14_carryOut 118 = .ok (.if_icmp .ne 16, 3) := by decide +kernel
theorem dX14_carryOut_121 : decode cX14_carryOut 121 = .ok (.aload_n 0, 1) := by decide +kernel
theorem dX14_carryOut_122 : decode cX14_carryOut 122 = .ok (.iload_n 2, 1) := by decide +kernel
theorem dX14_carryOut_123 : decode cX14_carryOut 123 = .ok (.invokevirtual 304, 3) := by decide +kernel
theorem dX14_carryOut_126 : decode cX14_carryOut 126 = .ok (.ifCond .eq 8, 3) := by decide +kernel
theorem dX14_carryOut_129 : decode cX14_carryOut 129 = .ok (.aload_n 0, 1) := by decide +kernel
theorem dX14_carryOut_130 : decode cX14_carryOut 130 = .ok (.iload_n 2, 1) := by decide +kernel
theorem dX14_carryOut_131 : decode cX14_carryOut 131 = .ok (.invokevirtual 307, 3) := by decide +kernel
theorem dX14_carryOut_134 : decode cX14_carryOut 134 = .ok (.aload_n 0, 1) := by decide +kernel
theorem dX14_carryOut_135 : decode cX14_carryOut 135 = .ok (.getfield 38, 3) := by decide +kernel
theorem dX14_carryOut_138 : decode cX14_carryOut 138 = .ok (.getfield 253, 3) := by decide +kernel
theorem dX14_carryOut_141 : decode cX14_carryOut 141 = .ok (.iload_n 1, 1) := by decide +kernel
theorem dX14_carryOut_142 : decode cX14_carryOut 142 = .ok (.iaload, 1) := by decide +kernel
theorem dX14_carryOut_143 : decode cX14_carryOut 143 = .ok (.bipush 12, 2) := by decide +kernel
theorem dX14_carryOut_145 : decode cX14_carryOut 145 = .ok (.if_icmp .ne 16, 3) := by decide +kernel
theorem dX14_carryOut_148 : decode cX14_carryOut 148 = .ok (.aload_n 0, 1) := by decide +kernel
theorem dX14_carryOut_149 : decode cX14_carryOut 149 = .ok (.getfield 48, 3) := by decide +kernel
theorem dX14_carryOut_152 : decode cX14_carryOut 152 = .ok (.iconst 4, 1) := by decide +kernel
theorem dX14_carryOut_153 : decode cX14_carryOut 153 = .ok (.iaload, 1) := by decide +kernel
theorem dX14_carryOut_154 : decode cX14_carryOut 154 = .ok (.ifCond .le 7, 3) := by decide +kernel
theorem dX14_carryOut_157 : decode cX14_carryOut 157 = .ok (.aload_n 0, 1) := by decide +kernel
theorem dX14_carryOut_158 : decode cX14_carryOut 158 = .ok (.invokevirtual 310, 3) := by decide +kernel
theorem dX14_carryOut_161 : decode cX14_carryOut 161 = .ok (.aload_n 0, 1) := by decide +kernel
theorem dX14_carryOut_162 : decode cX14_carryOut 162 = .ok (.getfield 38, 3) := by decide +kernel
theorem dX14_carryOut_165 : decode cX14_carryOut 165 = .ok (.getfield 253, 3) := by decide +kernel
theorem dX14_carryOut_168 : decode cX14_carryOut 168 = .ok (.iload_n 1, 1) := by decide +kernel
theorem dX14_carryOut_169 : decode cX14_carryOut 169 = .ok (.iaload, 1) := by decide +kernel
theorem dX14_carryOut_170 : decode cX14_carryOut 170 = .ok (.bipush 13, 2) := by decide +kernel
theorem dX14_carryOut_172 : decode cX14_carryOut 172 = .ok (.if_icmp .ne 16, 3) := by decide +kernel
theorem dX14_carryOut_175 : decode cX14_carryOut 175 = .ok (.aload_n 0, 1) := by decide +kernel
theorem dX14_carryOut_176 : decode cX14_carryOut 176 = .ok (.getfield 48, 3) := by decide +kernel
theorem dX14_carryOut_179 : decode cX14_carryOut 179 = .ok (.iconst 5, 1) := by decide +kernel
theorem dX14_carryOut_180 : decode cX14_carryOut 180 = .ok (.iaload, 1) := by decide +kernel
theorem dX14_carryOut_181 : decode cX14_carryOut 181 = .ok (.ifCond .le 7, 3) := by decide +kernel
theorem dX14_carryOut_184 : decode cX14_carryOut 184 = .ok (.aload_n 0, 1) := by decide +kernel
theorem dX14_carryOut_185 : decode cX14_carryOut 185 = .ok (.invokevirtual 313, 3) := by decide +kernel
theorem dX14_carryOut_188 : decode cX14_carryOut 188 = .ok (.aload_n 0, 1) := by decide +kernel
theorem dX14_carryOut_189 : decode cX14_carryOut 189 = .ok (.getfield 38, 3) := by decide +kernel
theorem dX14_carryOut_192 : decode cX14_carryOut 192 = .ok (.getfield 253, 3) := by decide +kernel
theorem dX14_carryOut_195 : decode cX14_carryOut 195 = .ok (.iload_n 1, 1) := by decide +kernel
theorem dX14_carryOut_196 : decode cX14_carryOut 196 = .ok (.iaload, 1) := by decide +kernel
theorem dX14_carryOut_197 : decode cX14_carryOut 197 = .ok (.bipush 14, 2) := by decide +kernel
theorem dX14_carryOut_199 : decode cX14_carryOut 199 = .ok (.if_icmp .ne 17, 3) := by decide +kernel
theorem dX14_carryOut_202 : decode cX14_carryOut 202 = .ok (.aload_n 0, 1) := by decide +kernel
theorem dX14_carryOut_203 : decode cX14_carryOut 203 = .ok (.iload_n 2, 1) := by decide +kernel
theorem dX14_carryOut_204 : decode cX14_carryOut 204 = .ok (.invokevirtual 295, 3) := by decide +kernel
theorem dX14_carryOut_207 : decode cX14_carryOut 207 = .ok (.ifCond .eq 9, 3) := by decide +kernel
theorem dX14_carryOut_210 : decode cX14_carryOut 210 = .ok (.aload_n 0, 1) := by decide +kernel
theorem dX14_carryOut_211 : decode cX14_carryOut 211 = .ok (.iload_n 2, 1) := by decide +kernel
theorem dX14_carryOut_212 : decode cX14_carryOut 212 = .ok (.invokevirtual 316, 3) := by decide +kernel
theorem dX14_carryOut_215 : decode cX14_carryOut 215 = .ok (.pop, 1) := by decide +kernel
theorem dX14_carryOut_216 : decode cX14_carryOut 216 = .ok (.return_, 1) := by decide +kernel
theorem dX14_weather_0 : decode cX14_weather 0 = .ok (.iconst 0, 1) := by decide +kernel
theorem dX14_weather_1 : decode cX14_weather 1 = .ok (.istore_n 1, 1) := by decide +kernel
theorem dX14_weather_2 : decode cX14_weather 2 = .ok (.iconst 0, 1) := by decide +kernel
theorem dX14_weather_3 : decode cX14_weather 3 = .ok (.istore_n 2, 1) := by decide +kernel
theorem dX14_weather_4 : decode cX14_weather 4 = .ok (.iconst 1, 1) := by decide +kernel
theorem dX14_weather_5 : decode cX14_weather 5 = .ok (.istore_n 3, 1) := by decide +kernel
theorem dX14_weather_6 : decode cX14_weather 6 = .ok (.iconst 0, 1) := by decide +kernel
theorem dX14_weather_7 : decode cX14_weather 7 = .ok (.istore 4, 2) := by decide +kernel
theorem dX14_weather_9 : decode cX14_weather 9 = .ok (.iload 4, 2) := by decide +kernel
theorem dX14_weather_11 : decode cX14_weather 11 = .ok (.aload_n 0, 1) := by decide +kernel
theorem dX14_weather_12 : decode cX14_weather 12 = .ok (.getfield 38, 3) := by decide +kernel
theorem dX14_weather_15 : decode cX14_weather 15 = .ok (.getfield 168, 3) := by decide +kernel
theorem dX14_weather_18 : decode cX14_weather 18 = .ok (.if_icmp .ge 89, 3) := by decide +kernel
theorem dX14_weather_21 : decode cX14_weather 21 = .ok (.aload_n 0, 1) := by decide +kernel
theorem dX14_weather_22 : decode cX14_weather 22 = .ok (.getfield 48, 3) := by decide +kernel
theorem dX14_weather_25 : decode cX14_weather 25 = .ok (.bipush 8, 2) := by decide +kernel
theorem dX14_weather_27 : decode cX14_weather 27 = .ok (.iload 4, 2) := by decide +kernel
theorem dX14_weather_29 : decode cX14_weather 29 = .ok (.iadd, 1) := by decide +kernel
theorem dX14_weather_30 : decode cX14_weather 30 = .ok (.iaload, 1) := by decide +kernel
theorem dX14_weather_31 : decode cX14_weather 31 = .ok (.ifCond .ne 6, 3) := by decide +kernel
theorem dX14_weather_34 : decode cX14_weather 34 = .ok (.goto 67, 3) := by decide +kernel
theorem dX14_weather_37 : decode cX14_weather 37 = .ok (.iconst 0, 1) := by decide +kernel
theorem dX14_weather_38 : decode cX14_weather 38 = .ok (.istore_n 3, 1) := by decide +kernel
theorem dX14_weather_39 : decode cX14_weather 39 = .ok (.iload_n 1, 1) := by decide +kernel
theorem dX14_weather_40 : decode cX14_weather 40 = .ok (.aload_n 0, 1) := by decide +kernel
theorem dX14_weather_41 : decode cX14_weather 41 = .ok (.getfield 38, 3) := by decide +kernel
theorem dX14_weather_44 : decode cX14_weather 44 = .ok (.getfield 223, 3) := by decide +kernel
theorem dX14_weather_47 : decode cX14_weather 47 = .ok (.iload 4, 2) := by decide +kernel
theorem dX14_weather_49 : decode cX14_weather 49 = .ok (.iaload, 1) := by decide +kernel
theorem dX14_weather_50 : decode cX14_weather 50 = .ok (.iconst 1, 1) := by decide +kernel
theorem dX14_weather_51 : decode cX14_weather 51 = .ok (.if_icmp .ne 16, 3) := by decide +kernel
theorem dX14_weather_54 : decode cX14_weather 54 = .ok (.aload_n 0, 1) := by decide +kernel
theorem dX14_weather_55 : decode cX14_weather 55 = .ok (.getfield 38, 3) := by decide +kernel
theorem dX14_weather_58 : decode cX14_weather 58 = .ok (.getfield 226, 3) := by decide +kernel
theorem dX14_weather_61 : decode cX14_weather 61 = .ok (.iload 4, 2) := by decide +kernel
theorem dX14_weather_63 : decode cX14_weather 63 = .ok (.iaload, 1) := by decide +kernel
theorem dX14_weather_64 : decode cX14_weather 64 = .ok (.goto 4, 3) := by decide +kernel
theorem dX14_weather_67 : decode cX14_weather 67 = .ok (.iconst 0, 1) := by decide +kernel
theorem dX14_weather_68 : decode cX14_weather 68 = .ok (.iadd, 1) := by decide +kernel
theorem dX14_weather_69 : decode cX14_weather 69 = .ok (.istore_n 1, 1) := by decide +kernel
theorem dX14_weather_70 : decode cX14_weather 70 = .ok (.iload_n 2, 1) := by decide +kernel
theorem dX14_weather_71 : decode cX14_weather 71 = .ok (.aload_n 0, 1) := by decide +kernel
theorem dX14_weather_72 : decode cX14_weather 72 = .ok (.getfield 38, 3) := by decide +kernel
theorem dX14_weather_75 : decode cX14_weather 75 = .ok (.getfield 223, 3) := by decide +kernel
theorem dX14_weather_78 : decode cX14_weather 78 = .ok (.iload 4, 2) := by decide +kernel
theorem dX14_weather_80 : decode cX14_weather 80 = .ok (.iaload, 1) := by decide +kernel
theorem dX14_weather_81 : decode cX14_weather 81 = .ok (.iconst 1, 1) := by decide +kernel
theorem dX14_weather_82 : decode cX14_weather 82 = .ok (.if_icmp .ne 7, 3) := by decide +kernel
theorem dX14_weather_85 : decode cX14_weather 85 = .ok (.iconst 0, 1) := by decide +kernel
theorem dX14_weather_86 : decode cX14_weather 86 = .ok (.goto 13, 3) := by decide +kernel
theorem dX14_weather_89 : decode cX14_weather 89 = .ok (.aload_n 0, 1) := by decide +kernel
theorem dX14_weather_90 : decode cX14_weather 90 = .ok (.getfield 38, 3) := by decide +kernel
theorem dX14_weather_93 : decode cX14_weather 93 = .ok (.getfield 226, 3) := by decide +kernel
theorem dX14_weather_96 : decode cX14_weather 96 = .ok (.iload 4, 2) := by decide +kernel
theorem dX14_weather_98 : decode cX14_weather 98 = .ok (.iaload, 1) := by decide +kernel
theorem dX14_weather_99 : decode cX14_weather 99 = .ok (.iadd, 1) := by decide +kernel
theorem dX14_weather_100 : decode cX14_weather 100 = .ok (.istore_n 2, 1) := by decide +kernel
theorem dX14_weather_101 : decode cX14_weather 101 = .ok (.iinc 4 1, 3) := by decide +kernel
theorem dX14_weather_104 : decode cX14_weather 104 = .ok (.goto (-95), 3) := by decide +kernel
theorem dX14_weather_107 : decode cX14_weather 107 = .ok (.aload_n 0, 1) := by decide +kernel
theorem dX14_weather_108 : decode cX14_weather 108 = .ok (.getfield 48, 3) := by decide +kernel
theorem dX14_weather_111 : decode cX14_weather 111 = .ok (.iconst 1, 1) := by decide +kernel
theorem dX14_weather_112 : decode cX14_weather 112 = .ok (.iload_n 3, 1) := by decide +kernel
theorem dX14_weather_113 : decode cX14_weather 113 = .ok (.ifCond .eq 24, 3) := by decide +kernel
theorem dX14_weather_116 : decode cX14_weather 116 = .ok (.aload_n 0, 1) := by decide +kernel
theorem dX14_weather_117 : decode cX14_weather 117 = .ok (.getfield 48, 3) := by decide +kernel
theorem dX14_weather_120 : decode cX14_weather 120 = .ok (.iconst 1, 1) := by decide +kernel
theorem dX14_weather_121 : decode cX14_weather 121 = .ok (.iaload, 1) := by decide +kernel
theorem dX14_weather_122 : decode cX14_weather 122 = .ok (.aload_n 0, 1) := by decide +kernel
theorem dX14_weather_123 : decode cX14_weather 123 = .ok (.getfield 48, 3) := by decide +kernel
theorem dX14_weather_126 : decode cX14_weather 126 = .ok (.iconst 1, 1) := by decide +kernel
theorem dX14_weather_127 : decode cX14_weather 127 = .ok (.iaload, 1) := by decide +kernel
theorem dX14_weather_128 : decode cX14_weather 128 = .ok (.bipush 20, 2) := by decide +kernel
theorem dX14_weather_130 : decode cX14_weather 130 = .ok (.invokestatic 319, 3) := by decide +kernel
theorem dX14_weather_133 : decode cX14_weather 133 = .ok (.isub, 1) := by decide +kernel
theorem dX14_weather_134 : decode cX14_weather 134 = .ok (.goto 18, 3) := by decide +kernel
theorem dX14_weather_137 : decode cX14_weather 137 = .ok (.aload_n 0, 1) := by decide +kernel
theorem dX14_weather_138 : decode cX14_weather 138 = .ok (.getfield 48, 3) := by decide +kernel
theorem dX14_weather_141 : decode cX14_weather 141 = .ok (.iconst 1, 1) := by decide +kernel
theorem dX14_weather_142 : decode cX14_weather 142 = .ok (.iaload, 1) := by decide +kernel
theorem dX14_weather_143 : decode cX14_weather 143 = .ok (.iload_n 1, 1) := by decide +kernel
theorem dX14_weather_144 : decode cX14_weather 144 = .ok (.iadd, 1) := by decide +kernel
theorem dX14_weather_145 : decode cX14_weather 145 = .ok (.iload_n 2, 1) := by decide +kernel
theorem dX14_weather_146 : decode cX14_weather 146 = .ok (.isub, 1) := by decide +kernel
theorem dX14_weather_147 : decode cX14_weather 147 = .ok (.bipush 40, 2) := by decide +kernel
theorem dX14_weather_149 : decode cX14_weather 149 = .ok (.invokestatic 324, 3) := by decide +kernel
theorem dX14_weather_152 : decode cX14_weather 152 = .ok (.iastore, 1) := by decide +kernel
theorem dX14_weather_153 : decode cX14_weather 153 = .ok (.aload_n 0, 1) := by decide +kernel
theorem dX14_weather_154 : decode cX14_weather 154 = .ok (.getfield 48, 3) := by decide +kernel
theorem dX14_weather_157 : decode cX14_weather 157 = .ok (.iconst 3, 1) := by decide +kernel
theorem dX14_weather_158 : decode cX14_weather 158 = .ok (.bipush 30, 2) := by decide +kernel
theorem dX14_weather_160 : decode cX14_weather 160 = .ok (.aload_n 0, 1) := by decide +kernel
theorem dX14_weather_161 : decode cX14_weather 161 = .ok (.getfield 48, 3) := by decide +kernel
theorem dX14_weather_164 : decode cX14_weather 164 = .ok (.iconst 3, 1) := by decide +kernel
theorem dX14_weather_165 : decode cX14_weather 165 = .ok (.iaload, 1) := by decide +kernel
theorem dX14_weather_166 : decode cX14_weather 166 = .ok (.iload_n 1, 1) := by decide +kernel
theorem dX14_weather_167 : decode cX14_weather 167 = .ok (.iload_n 2, 1) := by decide +kernel
theorem dX14_weather_168 : decode cX14_weather 168 = .ok (.invokestatic 60, 3) := by decide +kernel
theorem dX14_weather_171 : decode cX14_weather 171 = .ok (.iadd, 1) := by decide +kernel
theorem dX14_weather_172 : decode cX14_weather 172 = .ok (.invokestatic 60, 3) := by decide +kernel
theorem dX14_weather_175 : decode cX14_weather 175 = .ok (.iastore, 1) := by decide +kernel
theorem dX14_weather_176 : decode cX14_weather 176 = .ok (.return_, 1) := by decide +kernel
theorem dX14_storm_0 : decode cX14_storm 0 = .ok (.aload_n 0, 1) := by decide +kernel
theorem dX14_storm_1 : decode cX14_storm 1 = .ok (.getfield 48, 3) := by decide +kernel
theorem dX14_storm_4 : decode cX14_storm 4 = .ok (.iconst 3, 1) := by decide +kernel
theorem dX14_storm_5 : decode cX14_storm 5 = .ok (.iaload, 1) := by decide +kernel
theorem dX14_storm_6 : decode cX14_storm 6 = .ok (.bipush 12, 2) := by decide +kernel
theorem dX14_storm_8 : decode cX14_storm 8 = .ok (.if_icmp .ge 4, 3) := by decide +kernel
theorem dX14_storm_11 : decode cX14_storm 11 = .ok (.return_, 1) := by decide +kernel
theorem dX14_storm_12 : decode cX14_storm 12 = .ok (.iconst 0, 1) := by decide +kernel
theorem dX14_storm_13 : decode cX14_storm 13 = .ok (.istore_n 1, 1) := by decide +kernel
theorem dX14_storm_14 : decode cX14_storm 14 = .ok (.iload_n 1, 1) := by decide +kernel
theorem dX14_storm_15 : decode cX14_storm 15 = .ok (.aload_n 0, 1) := by decide +kernel
theorem dX14_storm_16 : decode cX14_storm 16 = .ok (.getfield 38, 3) := by decide +kernel
theorem dX14_storm_19 : decode cX14_storm 19 = .ok (.getfield 174, 3) := by decide +kernel
theorem dX14_storm_22 : decode cX14_storm 22 = .ok (.if_icmp .ge 62, 3) := by decide +kernel
theorem dX14_storm_25 : decode cX14_storm 25 = .ok (.aload_n 0, 1) := by decide +kernel
theorem dX14_storm_26 : decode cX14_storm 26 = .ok (.getfield 48, 3) := by decide +kernel
theorem dX14_storm_29 : decode cX14_storm 29 = .ok (.bipush 28, 2) := by decide +kernel
theorem dX14_storm_31 : decode cX14_storm 31 = .ok (.iload_n 1, 1) := by decide +kernel
theorem dX14_storm_32 : decode cX14_storm 32 = .ok (.iadd, 1) := by decide +kernel
theorem dX14_storm_33 : decode cX14_storm 33 = .ok (.iaload, 1) := by decide +kernel
theorem dX14_storm_34 : decode cX14_storm 34 = .ok (.ifCond .eq 44, 3) := by decide +kernel
theorem dX14_storm_37 : decode cX14_storm 37 = .ok (.aload_n 0, 1) := by decide +kernel
theorem dX14_storm_38 : decode cX14_storm 38 = .ok (.getfield 38, 3) := by decide +kernel
theorem dX14_storm_41 : decode cX14_storm 41 = .ok (.getfield 247, 3) := by decide +kernel
theorem dX14_storm_44 : decode cX14_storm 44 = .ok (.iload_n 1, 1) := by decide +kernel
theorem dX14_storm_45 : decode cX14_storm 45 = .ok (.iaload, 1) := by decide +kernel
theorem dX14_storm_46 : decode cX14_storm 46 = .ok (.aload_n 0, 1) := by decide +kernel
theorem dX14_storm_47 : decode cX14_storm 47 = .ok (.getfield 48, 3) := by decide +kernel
theorem dX14_storm_50 : decode cX14_storm 50 = .ok (.iconst 3, 1) := by decide +kernel
theorem dX14_storm_51 : decode cX14_storm 51 = .ok (.iaload, 1) := by decide +kernel
theorem dX14_storm_52 : decode cX14_storm 52 = .ok (.if_icmp .lt 6, 3) := by decide +kernel
theorem dX14_storm_55 : decode cX14_storm 55 = .ok (.goto 23, 3) := by decide +kernel
theorem dX14_storm_58 : decode cX14_storm 58 = .ok (.aload_n 0, 1) := by decide +kernel
theorem dX14_storm_59 : decode cX14_storm 59 = .ok (.getfield 48, 3) := by decide +kernel
theorem dX14_storm_62 : decode cX14_storm 62 = .ok (.bipush 28, 2) := by decide +kernel
theorem dX14_storm_64 : decode cX14_storm 64 = .ok (.iload_n 1, 1) := by decide +kernel
theorem dX14_storm_65 : decode cX14_storm 65 = .ok (.iadd, 1) := by decide +kernel
theorem dX14_storm_66 : decode cX14_storm 66 = .ok (.iconst 0, 1) := by decide +kernel
theorem dX14_storm_67 : decode cX14_storm 67 = .ok (.iastore, 1) := by decide +kernel
theorem dX14_storm_68 : decode cX14_storm 68 = .ok (.aload_n 0, 1) := by decide +kernel
theorem dX14_storm_69 : decode cX14_storm 69 = .ok (.getfield 48, 3) := by decide +kernel
theorem dX14_storm_72 : decode cX14_storm 72 = .ok (.bipush 48, 2) := by decide +kernel
theorem dX14_storm_74 : decode cX14_storm 74 = .ok (.iload_n 1, 1) := by decide +kernel
theorem dX14_storm_75 : decode cX14_storm 75 = .ok (.iadd, 1) := by decide +kernel
theorem dX14_storm_76 : decode cX14_storm 76 = .ok (.iconst 1, 1) := by decide +kernel
theorem dX14_storm_77 : decode cX14_storm 77 = .ok (.iastore, 1) := by decide +kernel
theorem dX14_storm_78 : decode cX14_storm 78 = .ok (.iinc 1 1, 3) := by decide +kernel
theorem dX14_storm_81 : decode cX14_storm 81 = .ok (.goto (-67), 3) := by decide +kernel
theorem dX14_storm_84 : decode cX14_storm 84 = .ok (.aload_n 0, 1) := by decide +kernel
theorem dX14_storm_85 : decode cX14_storm 85 = .ok (.getfield 48, 3) := by decide +kernel
theorem dX14_storm_88 : decode cX14_storm 88 = .ok (.iconst 2, 1) := by decide +kernel
theorem dX14_storm_89 : decode cX14_storm 89 = .ok (.dup2, 1) := by decide +kernel
theorem dX14_storm_90 : decode cX14_storm 90 = .ok (.iaload, 1) := by decide +kernel
theorem dX14_storm_91 : decode cX14_storm 91 = .ok (.iconst 2, 1) := by decide +kernel
theorem dX14_storm_92 : decode cX14_storm 92 = .ok (.idiv, 1) := by decide +kernel
theorem dX14_storm_93 : decode cX14_storm 93 = .ok (.iastore, 1) := by decide +kernel
theorem dX14_storm_94 : decode cX14_storm 94 = .ok (.aload_n 0, 1) := by decide +kernel
theorem dX14_storm_95 : decode cX14_storm 95 = .ok (.getfield 48, 3) := by decide +kernel
theorem dX14_storm_98 : decode cX14_storm 98 = .ok (.iconst 3, 1) := by decide +kernel
theorem dX14_storm_99 : decode cX14_storm 99 = .ok (.dup2, 1) := by decide +kernel
theorem dX14_storm_100 : decode cX14_storm 100 = .ok (.iaload, 1) := by decide +kernel
theorem dX14_storm_101 : decode cX14_storm 101 = .ok (.bipush 12, 2) := by decide +kernel
theorem dX14_storm_103 : decode cX14_storm 103 = .ok (.isub, 1) := by decide +kernel
theorem dX14_storm_104 : decode cX14_storm 104 = .ok (.iastore, 1) := by decide +kernel
theorem dX14_storm_105 : decode cX14_storm 105 = .ok (.aload_n 0, 1) := by decide +kernel
theorem dX14_storm_106 : decode cX14_storm 106 = .ok (.getfield 48, 3) := by decide +kernel
theorem dX14_storm_109 : decode cX14_storm 109 = .ok (.bipush 6, 2) := by decide +kernel
theorem dX14_storm_111 : decode cX14_storm 111 = .ok (.dup2, 1) := by decide +kernel
theorem dX14_storm_112 : decode cX14_storm 112 = .ok (.iaload, 1) := by decide +kernel
theorem dX14_storm_113 : decode cX14_storm 113 = .ok (.iconst 1, 1) := by decide +kernel
theorem dX14_storm_114 : decode cX14_storm 114 = .ok (.iadd, 1) := by decide +kernel
theorem dX14_storm_115 : decode cX14_storm 115 = .ok (.iastore, 1) := by decide +kernel
theorem dX14_storm_116 : decode cX14_storm 116 = .ok (.return_, 1) := by decide +kernel
theorem dX14_hourOn_0 : decode cX14_hourOn 0 = .ok (.iconst 0, 1) := by decide +kernel
theorem dX14_hourOn_1 : decode cX14_hourOn 1 = .ok (.istore_n 1, 1) := by decide +kernel
theorem dX14_hourOn_2 : decode cX14_hourOn 2 = .ok (.iload_n 1, 1) := by decide +kernel
theorem dX14_hourOn_3 : decode cX14_hourOn 3 = .ok (.aload_n 0, 1) := by decide +kernel
theorem dX14_hourOn_4 : decode cX14_hourOn 4 = .ok (.getfield 38, 3) := by decide +kernel
theorem dX14_hourOn_7 : decode cX14_hourOn 7 = .ok (.getfield 250, 3) := by decide +kernel
theorem dX14_hourOn_10 : decode cX14_hourOn 10 = .ok (.if_icmp .ge 14, 3) := by decide +kernel
theorem dX14_hourOn_13 : decode cX14_hourOn 13 = .ok (.aload_n 0, 1) := by decide +kernel
theorem dX14_hourOn_14 : decode cX14_hourOn 14 = .ok (.iload_n 1, 1) := by decide +kernel
theorem dX14_hourOn_15 : decode cX14_hourOn 15 = .ok (.invokevirtual 327, 3) := by decide +kernel
theorem dX14_hourOn_18 : decode cX14_hourOn 18 = .ok (.iinc 1 1, 3) := by decide +kernel
theorem dX14_hourOn_21 : decode cX14_hourOn 21 = .ok (.goto (-19), 3) := by decide +kernel
theorem dX14_hourOn_24 : decode cX14_hourOn 24 = .ok (.aload_n 0, 1) := by decide +kernel
theorem dX14_hourOn_25 : decode cX14_hourOn 25 = .ok (.invokevirtual 330, 3) := by decide +kernel
theorem dX14_hourOn_28 : decode cX14_hourOn 28 = .ok (.aload_n 0, 1) := by decide +kernel
theorem dX14_hourOn_29 : decode cX14_hourOn 29 = .ok (.invokevirtual 333, 3) := by decide +kernel
theorem dX14_hourOn_32 : decode cX14_hourOn 32 = .ok (.aload_n 0, 1) := by decide +kernel
theorem dX14_hourOn_33 : decode cX14_hourOn 33 = .ok (.getfield 48, 3) := by decide +kernel
theorem dX14_hourOn_36 : decode cX14_hourOn 36 = .ok (.iconst 0, 1) := by decide +kernel
theorem dX14_hourOn_37 : decode cX14_hourOn 37 = .ok (.dup2, 1) := by decide +kernel
theorem dX14_hourOn_38 : decode cX14_hourOn 38 = .ok (.iaload, 1) := by decide +kernel
theorem dX14_hourOn_39 : decode cX14_hourOn 39 = .ok (.iconst 1, 1) := by decide +kernel
theorem dX14_hourOn_40 : decode cX14_hourOn 40 = .ok (.iadd, 1) := by decide +kernel
theorem dX14_hourOn_41 : decode cX14_hourOn 41 = .ok (.iastore, 1) := by decide +kernel
theorem dX14_hourOn_42 : decode cX14_hourOn 42 = .ok (.iconst 0, 1) := by decide +kernel
theorem dX14_hourOn_43 : decode cX14_hourOn 43 = .ok (.istore_n 1, 1) := by decide +kernel
theorem dX14_hourOn_44 : decode cX14_hourOn 44 = .ok (.iload_n 1, 1) := by decide +kernel
theorem dX14_hourOn_45 : decode cX14_hourOn 45 = .ok (.aload_n 0, 1) := by decide +kernel
theorem dX14_hourOn_46 : decode cX14_hourOn 46 = .ok (.getfield 38, 3) := by decide +kernel
theorem dX14_hourOn_49 : decode cX14_hourOn 49 = .ok (.getfield 168, 3) := by decide +kernel
theorem dX14_hourOn_52 : decode cX14_hourOn 52 = .ok (.if_icmp .ge 47, 3) := by decide +kernel
theorem dX14_hourOn_55 : decode cX14_hourOn 55 = .ok (.aload_n 0, 1) := by decide +kernel
theorem dX14_hourOn_56 : decode cX14_hourOn 56 = .ok (.getfield 48, 3) := by decide +kernel
theorem dX14_hourOn_59 : decode cX14_hourOn 59 = .ok (.iconst 0, 1) := by decide +kernel
theorem dX14_hourOn_60 : decode cX14_hourOn 60 = .ok (.iaload, 1) := by decide +kernel
theorem dX14_hourOn_61 : decode cX14_hourOn 61 = .ok (.aload_n 0, 1) := by decide +kernel
theorem dX14_hourOn_62 : decode cX14_hourOn 62 = .ok (.getfield 38, 3) := by decide +kernel
theorem dX14_hourOn_65 : decode cX14_hourOn 65 = .ok (.getfield 232, 3) := by decide +kernel
theorem dX14_hourOn_68 : decode cX14_hourOn 68 = .ok (.iload_n 1, 1) := by decide +kernel
theorem dX14_hourOn_69 : decode cX14_hourOn 69 = .ok (.iaload, 1) := by decide +kernel
theorem dX14_hourOn_70 : decode cX14_hourOn 70 = .ok (.aload_n 0, 1) := by decide +kernel
theorem dX14_hourOn_71 : decode cX14_hourOn 71 = .ok (.getfield 38, 3) := by decide +kernel
theorem dX14_hourOn_74 : decode cX14_hourOn 74 = .ok (.getfield 235, 3) := by decide +kernel
theorem dX14_hourOn_77 : decode cX14_hourOn 77 = .ok (.iload_n 1, 1) := by decide +kernel
theorem dX14_hourOn_78 : decode cX14_hourOn 78 = .ok (.iaload, 1) := by decide +kernel
theorem dX14_hourOn_79 : decode cX14_hourOn 79 = .ok (.iadd, 1) := by decide +kernel
theorem dX14_hourOn_80 : decode cX14_hourOn 80 = .ok (.if_icmp .ne 13, 3) := by decide +kernel
theorem dX14_hourOn_83 : decode cX14_hourOn 83 = .ok (.aload_n 0, 1) := by decide +kernel
theorem dX14_hourOn_84 : decode cX14_hourOn 84 = .ok (.getfield 48, 3) := by decide +kernel
theorem dX14_hourOn_87 : decode cX14_hourOn 87 = .ok (.bipush 8, 2) := by decide +kernel
theorem dX14_hourOn_89 : decode cX14_hourOn 89 = .ok (.iload_n 1, 1) := by decide +kernel
theorem dX14_hourOn_90 : decode cX14_hourOn 90 = .ok (.iadd, 1) := by decide +kernel
theorem dX14_hourOn_91 : decode cX14_hourOn 91 = .ok (.iconst 0, 1) := by decide +kernel
theorem dX14_hourOn_92 : decode cX14_hourOn 92 = .ok (.iastore, 1) := by decide +kernel
theorem dX14_hourOn_93 : decode cX14_hourOn 93 = .ok (.iinc 1 1, 3) := by decide +kernel
theorem dX14_hourOn_96 : decode cX14_hourOn 96 = .ok (.goto (-52), 3) := by decide +kernel
theorem dX14_hourOn_99 : decode cX14_hourOn 99 = .ok (.iconst 0, 1) := by decide +kernel
theorem dX14_hourOn_100 : decode cX14_hourOn 100 = .ok (.istore_n 1, 1) := by decide +kernel
theorem dX14_hourOn_101 : decode cX14_hourOn 101 = .ok (.iload_n 1, 1) := by decide +kernel
theorem dX14_hourOn_102 : decode cX14_hourOn 102 = .ok (.aload_n 0, 1) := by decide +kernel
theorem dX14_hourOn_103 : decode cX14_hourOn 103 = .ok (.getfield 38, 3) := by decide +kernel
theorem dX14_hourOn_106 : decode cX14_hourOn 106 = .ok (.getfield 174, 3) := by decide +kernel
theorem dX14_hourOn_109 : decode cX14_hourOn 109 = .ok (.if_icmp .ge 40, 3) := by decide +kernel
theorem dX14_hourOn_112 : decode cX14_hourOn 112 = .ok (.aload_n 0, 1) := by decide +kernel
theorem dX14_hourOn_113 : decode cX14_hourOn 113 = .ok (.getfield 48, 3) := by decide +kernel
theorem dX14_hourOn_116 : decode cX14_hourOn 116 = .ok (.iconst 0, 1) := by decide +kernel
theorem dX14_hourOn_117 : decode cX14_hourOn 117 = .ok (.iaload, 1) := by decide +kernel
theorem dX14_hourOn_118 : decode cX14_hourOn 118 = .ok (.aload_n 0, 1) := by decide +kernel
theorem dX14_hourOn_119 : decode cX14_hourOn 119 = .ok (.getfield 38, 3) := by decide +kernel
theorem dX14_hourOn_122 : decode cX14_hourOn 122 = .ok (.getfield 238, 3) := by decide +kernel
theorem dX14_hourOn_125 : decode cX14_hourOn 125 = .ok (.iload_n 1, 1) := by decide +kernel
theorem dX14_hourOn_126 : decode cX14_hourOn 126 = .ok (.iaload, 1) := by decide +kernel
theorem dX14_hourOn_127 : decode cX14_hourOn 127 = .ok (.bipush 8, 2) := by decide +kernel
theorem dX14_hourOn_129 : decode cX14_hourOn 129 = .ok (.iadd, 1) := by decide +kernel
theorem dX14_hourOn_130 : decode cX14_hourOn 130 = .ok (.if_icmp .ne 13, 3) := by decide +kernel
theorem dX14_hourOn_133 : decode cX14_hourOn 133 = .ok (.aload_n 0, 1) := by decide +kernel
theorem dX14_hourOn_134 : decode cX14_hourOn 134 = .ok (.getfield 48, 3) := by decide +kernel
theorem dX14_hourOn_137 : decode cX14_hourOn 137 = .ok (.bipush 28, 2) := by decide +kernel
theorem dX14_hourOn_139 : decode cX14_hourOn 139 = .ok (.iload_n 1, 1) := by decide +kernel
theorem dX14_hourOn_140 : decode cX14_hourOn 140 = .ok (.iadd, 1) := by decide +kernel
theorem dX14_hourOn_141 : decode cX14_hourOn 141 = .ok (.iconst 0, 1) := by decide +kernel
theorem dX14_hourOn_142 : decode cX14_hourOn 142 = .ok (.iastore, 1) := by decide +kernel
theorem dX14_hourOn_143 : decode cX14_hourOn 143 = .ok (.iinc 1 1, 3) := by decide +kernel
theorem dX14_hourOn_146 : decode cX14_hourOn 146 = .ok (.goto (-45), 3) := by decide +kernel
theorem dX14_hourOn_149 : decode cX14_hourOn 149 = .ok (.aload_n 0, 1) := by decide +kernel
theorem dX14_hourOn_150 : decode cX14_hourOn 150 = .ok (.invokevirtual 69, 3) := by decide +kernel
theorem dX14_hourOn_153 : decode cX14_hourOn 153 = .ok (.return_, 1) := by decide +kernel
theorem dX14_keep_0 : decode cX14_keep 0 = .ok (.aload_n 0, 1) := by decide +kernel
theorem dX14_keep_1 : decode cX14_keep 1 = .ok (.getfield 48, 3) := by decide +kernel
theorem dX14_keep_4 : decode cX14_keep 4 = .ok (.iconst 0, 1) := by decide +kernel
theorem dX14_keep_5 : decode cX14_keep 5 = .ok (.aload_n 0, 1) := by decide +kernel
theorem dX14_keep_6 : decode cX14_keep 6 = .ok (.getfield 51, 3) := by decide +kernel
theorem dX14_keep_9 : decode cX14_keep 9 = .ok (.iconst 0, 1) := by decide +kernel
theorem dX14_keep_10 : decode cX14_keep 10 = .ok (.bipush 58, 2) := by decide +kernel
theorem dX14_keep_12 : decode cX14_keep 12 = .ok (.invokestatic 336, 3) := by decide +kernel
theorem dX14_keep_15 : decode cX14_keep 15 = .ok (.return_, 1) := by decide +kernel
theorem dX14_bringBack_0 : decode cX14_bringBack 0 = .ok (.aload_n 0, 1) := by decide +kernel
theorem dX14_bringBack_1 : decode cX14_bringBack 1 = .ok (.getfield 51, 3) := by decide +kernel
theorem dX14_bringBack_4 : decode cX14_bringBack 4 = .ok (.iconst 0, 1) := by decide +kernel
theorem dX14_bringBack_5 : decode cX14_bringBack 5 = .ok (.aload_n 0, 1) := by decide +kernel
theorem dX14_bringBack_6 : decode cX14_bringBack 6 = .ok (.getfield 48, 3) := by decide +kernel
theorem dX14_bringBack_9 : decode cX14_bringBack 9 = .ok (.iconst 0, 1) := by decide +kernel
theorem dX14_bringBack_10 : decode cX14_bringBack 10 = .ok (.bipush 58, 2) := by decide +kernel
theorem dX14_bringBack_12 : decode cX14_bringBack 12 = .ok (.invokestatic 336, 3) := by decide +kernel
theorem dX14_bringBack_15 : decode cX14_bringBack 15 = .ok (.return_, 1) := by decide +kernel
theorem dX14_fronts_0 : decode cX14_fronts 0 = .ok (.aload_n 0, 1) := by decide +kernel
theorem dX14_fronts_1 : decode cX14_fronts 1 = .ok (.aload_n 0, 1) := by decide +kernel
theorem dX14_fronts_2 : decode cX14_fronts 2 = .ok (.getfield 38, 3) := by decide +kernel
theorem dX14_fronts_5 : decode cX14_fronts 5 = .ok (.getfield 168, 3) := by decide +kernel
theorem dX14_fronts_8 : decode cX14_fronts 8 = .ok (.invokevirtual 292, 3) := by decide +kernel
theorem dX14_fronts_11 : decode cX14_fronts 11 = .ok (.ireturn, 1) := by decide +kernel
theorem dX14_guests_0 : decode cX14_guests 0 = .ok (.aload_n 0, 1) := by decide +kernel
theorem dX14_guests_1 : decode cX14_guests 1 = .ok (.aload_n 0, 1) := by decide +kernel
theorem dX14_guests_2 : decode cX14_guests 2 = .ok (.getfield 38, 3) := by decide +kernel
theorem dX14_guests_5 : decode cX14_guests 5 = .ok (.getfield 174, 3) := by decide +kernel
theorem dX14_guests_8 : decode cX14_guests 8 = .ok (.invokevirtual 292, 3) := by decide +kernel
theorem dX14_guests_11 : decode cX14_guests 11 = .ok (.ireturn, 1) := by decide +kernel
theorem dX14_hour_0 : decode cX14_hour 0 = .ok (.aload_n 0, 1) := by decide +kernel
theorem dX14_hour_1 : decode cX14_hour 1 = .ok (.aload_n 0, 1) := by decide +kernel
theorem dX14_hour_2 : decode cX14_hour 2 = .ok (.getfield 48, 3) := by decide +kernel
theorem dX14_hour_5 : decode cX14_hour 5 = .ok (.iconst 0, 1) := by decide +kernel
theorem dX14_hour_6 : decode cX14_hour 6 = .ok (.iaload, 1) := by decide +kernel
theorem dX14_hour_7 : decode cX14_hour 7 = .ok (.invokevirtual 292, 3) := by decide +kernel
theorem dX14_hour_10 : decode cX14_hour 10 = .ok (.ireturn, 1) := by decide +kernel
theorem dX14_warmth_0 : decode cX14_warmth 0 = .ok (.aload_n 0, 1) := by decide +kernel
theorem dX14_warmth_1 : decode cX14_warmth 1 = .ok (.aload_n 0, 1) := by decide +kernel
theorem dX14_warmth_2 : decode cX14_warmth 2 = .ok (.getfield 48, 3) := by decide +kernel
theorem dX14_warmth_5 : decode cX14_warmth 5 = .ok (.iconst 1, 1) := by decide +kernel
theorem dX14_warmth_6 : decode cX14_warmth 6 = .ok (.iaload, 1) := by decide +kernel
theorem dX14_warmth_7 : decode cX14_warmth 7 = .ok (.invokevirtual 292, 3) := by decide +kernel
theorem dX14_warmth_10 : decode cX14_warmth 10 = .ok (.ireturn, 1) := by decide +kernel
theorem dX14_strength_0 : decode cX14_strength 0 = .ok (.aload_n 0, 1) := by decide +kernel
theorem dX14_strength_1 : decode cX14_strength 1 = .ok (.aload_n 0, 1) := by decide +kernel
theorem dX14_strength_2 : decode cX14_strength 2 = .ok (.getfield 48, 3) := by decide +kernel
theorem dX14_strength_5 : decode cX14_strength 5 = .ok (.iconst 2, 1) := by decide +kernel
theorem dX14_strength_6 : decode cX14_strength 6 = .ok (.iaload, 1) := by decide +kernel
theorem dX14_strength_7 : decode cX14_strength 7 = .ok (.invokevirtual 292, 3) := by decide +kernel
theorem dX14_strength_10 : decode cX14_strength 10 = .ok (.ireturn, 1) := by decide +kernel
theorem dX14_charge_0 : decode cX14_charge 0 = .ok (.aload_n 0, 1) := by decide +kernel
theorem dX14_charge_1 : decode cX14_charge 1 = .ok (.aload_n 0, 1) := by decide +kernel
theorem dX14_charge_2 : decode cX14_charge 2 = .ok (.getfield 48, 3) := by decide +kernel
theorem dX14_charge_5 : decode cX14_charge 5 = .ok (.iconst 3, 1) := by decide +kernel
theorem dX14_charge_6 : decode cX14_charge 6 = .ok (.iaload, 1) := by decide +kernel
theorem dX14_charge_7 : decode cX14_charge 7 = .ok (.invokevirtual 292, 3) := by decide +kernel
theorem dX14_charge_10 : decode cX14_charge 10 = .ok (.ireturn, 1) := by decide +kernel
theorem dX14_lemons_0 : decode cX14_lemons 0 = .ok (.aload_n 0, 1) := by decide +kernel
theorem dX14_lemons_1 : decode cX14_lemons 1 = .ok (.aload_n 0, 1) := by decide +kernel
theorem dX14_lemons_2 : decode cX14_lemons 2 = .ok (.getfield 48, 3) := by decide +kernel
theorem dX14_lemons_5 : decode cX14_lemons 5 = .ok (.iconst 4, 1) := by decide +kernel
theorem dX14_lemons_6 : decode cX14_lemons 6 = .ok (.iaload, 1) := by decide +kernel
theorem dX14_lemons_7 : decode cX14_lemons 7 = .ok (.invokevirtual 292, 3) := by decide +kernel
theorem dX14_lemons_10 : decode cX14_lemons 10 = .ok (.ireturn, 1) := by decide +kernel
theorem dX14_saucers_0 : decode cX14_saucers 0 = .ok (.aload_n 0, 1) := by decide +kernel
theorem dX14_saucers_1 : decode cX14_saucers 1 = .ok (.aload_n 0, 1) := by decide +kernel
theorem dX14_saucers_2 : decode cX14_saucers 2 = .ok (.getfield 48, 3) := by decide +kernel
theorem dX14_saucers_5 : decode cX14_saucers 5 = .ok (.iconst 5, 1) := by decide +kernel
theorem dX14_saucers_6 : decode cX14_saucers 6 = .ok (.iaload, 1) := by decide +kernel
theorem dX14_saucers_7 : decode cX14_saucers 7 = .ok (.invokevirtual 292, 3) := by decide +kernel
theorem dX14_saucers_10 : decode cX14_saucers 10 = .ok (.ireturn, 1) := by decide +kernel
theorem dX14_coins_0 : decode cX14_coins 0 = .ok (.aload_n 0, 1) := by decide +kernel
theorem dX14_coins_1 : decode cX14_coins 1 = .ok (.aload_n 0, 1) := by decide +kernel
theorem dX14_coins_2 : decode cX14_coins 2 = .ok (.getfield 48, 3) := by decide +kernel
theorem dX14_coins_5 : decode cX14_coins 5 = .ok (.bipush 7, 2) := by decide +kernel
theorem dX14_coins_7 : decode cX14_coins 7 = .ok (.iaload, 1) := by decide +kernel
theorem dX14_coins_8 : decode cX14_coins 8 = .ok (.invokevirtual 292, 3) := by decide +kernel
theorem dX14_coins_11 : decode cX14_coins 11 = .ok (.ireturn, 1) := by decide +kernel
theorem dX14_storms_0 : decode cX14_storms 0 = .ok (.aload_n 0, 1) := by decide +kernel
theorem dX14_storms_1 : decode cX14_storms 1 = .ok (.aload_n 0, 1) := by decide +kernel
theorem dX14_storms_2 : decode cX14_storms 2 = .ok (.getfield 48, 3) := by decide +kernel
theorem dX14_storms_5 : decode cX14_storms 5 = .ok (.bipush 6, 2) := by decide +kernel
theorem dX14_storms_7 : decode cX14_storms 7 = .ok (.iaload, 1) := by decide +kernel
theorem dX14_storms_8 : decode cX14_storms 8 = .ok (.invokevirtual 292, 3) := by decide +kernel
theorem dX14_storms_11 : decode cX14_storms 11 = .ok (.ireturn, 1) := by decide +kernel
theorem dX14_guestsWith_0 : decode cX14_guestsWith 0 = .ok (.iconst 0, 1) := by decide +kernel
theorem dX14_guestsWith_1 : decode cX14_guestsWith 1 = .ok (.istore_n 2, 1) := by decide +kernel
theorem dX14_guestsWith_2 : decode cX14_guestsWith 2 = .ok (.iconst 0, 1) := by decide +kernel
theorem dX14_guestsWith_3 : decode cX14_guestsWith 3 = .ok (.istore_n 3, 1) := by decide +kernel
theorem dX14_guestsWith_4 : decode cX14_guestsWith 4 = .ok (.iload_n 3, 1) := by decide +kernel
theorem dX14_guestsWith_5 : decode cX14_guestsWith 5 = .ok (.aload_n 0, 1) := by decide +kernel
theorem dX14_guestsWith_6 : decode cX14_guestsWith 6 = .ok (.getfield 38, 3) := by decide +kernel
theorem dX14_guestsWith_9 : decode cX14_guestsWith 9 = .ok (.getfield 174, 3) := by decide +kernel
theorem dX14_guestsWith_12 : decode cX14_guestsWith 12 = .ok (.if_icmp .ge 20, 3) := by decide +kernel
theorem dX14_guestsWith_15 : decode cX14_guestsWith 15 = .ok (.iload_n 2, 1) := by decide +kernel
theorem dX14_guestsWith_16 : decode cX14_guestsWith 16 = .ok (.aload_n 0, 1) := by decide +kernel
theorem dX14_guestsWith_17 : decode cX14_guestsWith 17 = .ok (.getfield 48, 3) := by decide +kernel
theorem dX14_guestsWith_20 : decode cX14_guestsWith 20 = .ok (.iload_n 1, 1) := by decide +kernel
theorem dX14_guestsWith_21 : decode cX14_guestsWith 21 = .ok (.iload_n 3, 1) := by decide +kernel
theorem dX14_guestsWith_22 : decode cX14_guestsWith 22 = .ok (.iadd, 1) := by decide +kernel
theorem dX14_guestsWith_23 : decode cX14_guestsWith 23 = .ok (.iaload, 1) := by decide +kernel
theorem dX14_guestsWith_24 : decode cX14_guestsWith 24 = .ok (.iadd, 1) := by decide +kernel
theorem dX14_guestsWith_25 : decode cX14_guestsWith 25 = .ok (.istore_n 2, 1) := by decide +kernel
theorem dX14_guestsWith_26 : decode cX14_guestsWith 26 = .ok (.iinc 3 1, 3) := by decide +kernel
theorem dX14_guestsWith_29 : decode cX14_guestsWith 29 = .ok (.goto (-25), 3) := by decide +kernel
theorem dX14_guestsWith_32 : decode cX14_guestsWith 32 = .ok (.iload_n 2, 1) := by decide +kernel
theorem dX14_guestsWith_33 : decode cX14_guestsWith 33 = .ok (.ireturn, 1) := by decide +kernel
theorem dX14_seatedGuests_0 : decode cX14_seatedGuests 0 = .ok (.aload_n 0, 1) := by decide +kernel
theorem dX14_seatedGuests_1 : decode cX14_seatedGuests 1 = .ok (.aload_n 0, 1) := by decide +kernel
theorem dX14_seatedGuests_2 : decode cX14_seatedGuests 2 = .ok (.bipush 28, 2) := by decide +kernel
theorem dX14_seatedGuests_4 : decode cX14_seatedGuests 4 = .ok (.invokevirtual 342, 3) := by decide +kernel
theorem dX14_seatedGuests_7 : decode cX14_seatedGuests 7 = .ok (.invokevirtual 292, 3) := by decide +kernel
theorem dX14_seatedGuests_10 : decode cX14_seatedGuests 10 = .ok (.ireturn, 1) := by decide +kernel
theorem dX14_served_0 : decode cX14_served 0 = .ok (.aload_n 0, 1) := by decide +kernel
theorem dX14_served_1 : decode cX14_served 1 = .ok (.aload_n 0, 1) := by decide +kernel
theorem dX14_served_2 : decode cX14_served 2 = .ok (.bipush 38, 2) := by decide +kernel
theorem dX14_served_4 : decode cX14_served 4 = .ok (.invokevirtual 342, 3) := by decide +kernel
theorem dX14_served_7 : decode cX14_served 7 = .ok (.invokevirtual 292, 3) := by decide +kernel
theorem dX14_served_10 : decode cX14_served 10 = .ok (.ireturn, 1) := by decide +kernel
theorem dX14_stormed_0 : decode cX14_stormed 0 = .ok (.aload_n 0, 1) := by decide +kernel
theorem dX14_stormed_1 : decode cX14_stormed 1 = .ok (.aload_n 0, 1) := by decide +kernel
theorem dX14_stormed_2 : decode cX14_stormed 2 = .ok (.bipush 48, 2) := by decide +kernel
theorem dX14_stormed_4 : decode cX14_stormed 4 = .ok (.invokevirtual 342, 3) := by decide +kernel
theorem dX14_stormed_7 : decode cX14_stormed 7 = .ok (.invokevirtual 292, 3) := by decide +kernel
theorem dX14_stormed_10 : decode cX14_stormed 10 = .ok (.ireturn, 1) := by decide +kernel
theorem dX14_isFront_0 : decode cX14_isFront 0 = .ok (.aload_n 0, 1) := by decide +kernel
theorem dX14_isFront_1 : decode cX14_isFront 1 = .ok (.iload_n 1, 1) := by decide +kernel
theorem dX14_isFront_2 : decode cX14_isFront 2 = .ok (.iconst 0, 1) := by decide +kernel
theorem dX14_isFront_3 : decode cX14_isFront 3 = .ok (.aload_n 0, 1) := by decide +kernel
theorem dX14_isFront_4 : decode cX14_isFront 4 = .ok (.getfield 38, 3) := by decide +kernel
theorem dX14_isFront_7 : decode cX14_isFront 7 = .ok (.getfield 168, 3) := by decide +kernel
theorem dX14_isFront_10 : decode cX14_isFront 10 = .ok (.iconst 1, 1) := by decide +kernel
theorem dX14_isFront_11 : decode cX14_isFront 11 = .ok (.isub, 1) := by decide +kernel
theorem dX14_isFront_12 : decode cX14_isFront 12 = .ok (.invokestatic 72, 3) := by decide +kernel
theorem dX14_isFront_15 : decode cX14_isFront 15 = .ok (.ifCond .eq 7, 3) := by decide +kernel
theorem dX14_isFront_18 : decode cX14_isFront 18 = .ok (.iconst 0, 1) := by decide +kernel
theorem dX14_isFront_19 : decode cX14_isFront 19 = .ok (.goto 4, 3) := by decide +kernel
theorem dX14_isFront_22 : decode cX14_isFront 22 = .ok (.iconst 1, 1) := by decide +kernel
theorem dX14_isFront_23 : decode cX14_isFront 23 = .ok (.putfield 57, 3) := by decide +kernel
theorem dX14_isFront_26 : decode cX14_isFront 26 = .ok (.aload_n 0, 1) := by decide +kernel
theorem dX14_isFront_27 : decode cX14_isFront 27 = .ok (.getfield 57, 3) := by decide +kernel
theorem dX14_isFront_30 : decode cX14_isFront 30 = .ok (.ifCond .ne 7, 3) := by decide +kernel
theorem dX14_isFront_33 : decode cX14_isFront 33 = .ok (.iconst 1, 1) := by decide +kernel
theorem dX14_isFront_34 : decode cX14_isFront 34 = .ok (.goto 4, 3) := by decide +kernel
theorem dX14_isFront_37 : decode cX14_isFront 37 = .ok (.iconst 0, 1) := by decide +kernel
theorem dX14_isFront_38 : decode cX14_isFront 38 = .ok (.ireturn, 1) := by decide +kernel
theorem dX14_isGuest_0 : decode cX14_isGuest 0 = .ok (.aload_n 0, 1) := by decide +kernel
theorem dX14_isGuest_1 : decode cX14_isGuest 1 = .ok (.iload_n 1, 1) := by decide +kernel
theorem dX14_isGuest_2 : decode cX14_isGuest 2 = .ok (.iconst 0, 1) := by decide +kernel
theorem dX14_isGuest_3 : decode cX14_isGuest 3 = .ok (.aload_n 0, 1) := by decide +kernel
theorem dX14_isGuest_4 : decode cX14_isGuest 4 = .ok (.getfield 38, 3) := by decide +kernel
theorem dX14_isGuest_7 : decode cX14_isGuest 7 = .ok (.getfield 174, 3) := by decide +kernel
theorem dX14_isGuest_10 : decode cX14_isGuest 10 = .ok (.iconst 1, 1) := by decide +kernel
theorem dX14_isGuest_11 : decode cX14_isGuest 11 = .ok (.isub, 1) := by decide +kernel
theorem dX14_isGuest_12 : decode cX14_isGuest 12 = .ok (.invokestatic 72, 3) := by decide +kernel
theorem dX14_isGuest_15 : decode cX14_isGuest 15 = .ok (.ifCond .eq 7, 3) := by decide +kernel
theorem dX14_isGuest_18 : decode cX14_isGuest 18 = .ok (.iconst 0, 1) := by decide +kernel
theorem dX14_isGuest_19 : decode cX14_isGuest 19 = .ok (.goto 4, 3) := by decide +kernel
theorem dX14_isGuest_22 : decode cX14_isGuest 22 = .ok (.iconst 1, 1) := by decide +kernel
theorem dX14_isGuest_23 : decode cX14_isGuest 23 = .ok (.putfield 57, 3) := by decide +kernel
theorem dX14_isGuest_26 : decode cX14_isGuest 26 = .ok (.aload_n 0, 1) := by decide +kernel
theorem dX14_isGuest_27 : decode cX14_isGuest 27 = .ok (.getfield 57, 3) := by decide +kernel
theorem dX14_isGuest_30 : decode cX14_isGuest 30 = .ok (.ifCond .ne 7, 3) := by decide +kernel
theorem dX14_isGuest_33 : decode cX14_isGuest 33 = .ok (.iconst 1, 1) := by decide +kernel
theorem dX14_isGuest_34 : decode cX14_isGuest 34 = .ok (.goto 4, 3) := by decide +kernel
theorem dX14_isGuest_37 : decode cX14_isGuest 37 = .ok (.iconst 0, 1) := by decide +kernel
theorem dX14_isGuest_38 : decode cX14_isGuest 38 = .ok (.ireturn, 1) := by decide +kernel
theorem dX14_isWarm_0 : decode cX14_isWarm 0 = .ok (.aload_n 0, 1) := by decide +kernel
theorem dX14_isWarm_1 : decode cX14_isWarm 1 = .ok (.iload_n 1, 1) := by decide +kernel
theorem dX14_isWarm_2 : decode cX14_isWarm 2 = .ok (.invokevirtual 345, 3) := by decide +kernel
theorem dX14_isWarm_5 : decode cX14_isWarm 5 = .ok (.ifCond .eq 20, 3) := by decide +kernel
theorem dX14_isWarm_8 : decode cX14_isWarm 8 = .ok (.aload_n 0, 1) := by decide +kernel
theorem dX14_isWarm_9 : decode cX14_isWarm 9 = .ok (.getfield 38, 3) := by decide +kernel
theorem dX14_isWarm_12 : decode cX14_isWarm 12 = .ok (.getfield 223, 3) := by decide +kernel
theorem dX14_isWarm_15 : decode cX14_isWarm 15 = .ok (.iload_n 1, 1) := by decide +kernel
theorem dX14_isWarm_16 : decode cX14_isWarm 16 = .ok (.iaload, 1) := by decide +kernel
theorem dX14_isWarm_17 : decode cX14_isWarm 17 = .ok (.iconst 1, 1) := by decide +kernel
theorem dX14_isWarm_18 : decode cX14_isWarm 18 = .ok (.if_icmp .ne 7, 3) := by decide +kernel
theorem dX14_isWarm_21 : decode cX14_isWarm 21 = .ok (.iconst 1, 1) := by decide +kernel
theorem dX14_isWarm_22 : decode cX14_isWarm 22 = .ok (.goto 4, 3) := by decide +kernel
theorem dX14_isWarm_25 : decode cX14_isWarm 25 = .ok (.iconst 0, 1) := by decide +kernel
theorem dX14_isWarm_26 : decode cX14_isWarm 26 = .ok (.ireturn, 1) := by decide +kernel
theorem dX14_forceOf_0 : decode cX14_forceOf 0 = .ok (.aload_n 0, 1) := by decide +kernel
theorem dX14_forceOf_1 : decode cX14_forceOf 1 = .ok (.iload_n 1, 1) := by decide +kernel
theorem dX14_forceOf_2 : decode cX14_forceOf 2 = .ok (.invokevirtual 345, 3) := by decide +kernel
theorem dX14_forceOf_5 : decode cX14_forceOf 5 = .ok (.ifCond .eq 15, 3) := by decide +kernel
theorem dX14_forceOf_8 : decode cX14_forceOf 8 = .ok (.aload_n 0, 1) := by decide +kernel
theorem dX14_forceOf_9 : decode cX14_forceOf 9 = .ok (.getfield 38, 3) := by decide +kernel
theorem dX14_forceOf_12 : decode cX14_forceOf 12 = .ok (.getfield 226, 3) := by decide +kernel
theorem dX14_forceOf_15 : decode cX14_forceOf 15 = .ok (.iload_n 1, 1) := by decide +kernel
theorem dX14_forceOf_16 : decode cX14_forceOf 16 = .ok (.iaload, 1) := by decide +kernel
theorem dX14_forceOf_17 : decode cX14_forceOf 17 = .ok (.goto 4, 3) := by decide +kernel
theorem dX14_forceOf_20 : decode cX14_forceOf 20 = .ok (.iconst 0, 1) := by decide +kernel
theorem dX14_forceOf_21 : decode cX14_forceOf 21 = .ok (.ireturn, 1) := by decide +kernel
theorem dX14_isOver_0 : decode cX14_isOver 0 = .ok (.aload_n 0, 1) := by decide +kernel
theorem dX14_isOver_1 : decode cX14_isOver 1 = .ok (.iload_n 1, 1) := by decide +kernel
theorem dX14_isOver_2 : decode cX14_isOver 2 = .ok (.invokevirtual 345, 3) := by decide +kernel
theorem dX14_isOver_5 : decode cX14_isOver 5 = .ok (.ifCond .eq 20, 3) := by decide +kernel
theorem dX14_isOver_8 : decode cX14_isOver 8 = .ok (.aload_n 0, 1) := by decide +kernel
theorem dX14_isOver_9 : decode cX14_isOver 9 = .ok (.getfield 48, 3) := by decide +kernel
theorem dX14_isOver_12 : decode cX14_isOver 12 = .ok (.bipush 8, 2) := by decide +kernel
theorem dX14_isOver_14 : decode cX14_isOver 14 = .ok (.iload_n 1, 1) := by decide +kernel
theorem dX14_isOver_15 : decode cX14_isOver 15 = .ok (.iadd, 1) := by decide +kernel
theorem dX14_isOver_16 : decode cX14_isOver 16 = .ok (.iaload, 1) := by decide +kernel
theorem dX14_isOver_17 : decode cX14_isOver 17 = .ok (.iconst 1, 1) := by decide +kernel
theorem dX14_isOver_18 : decode cX14_isOver 18 = .ok (.if_icmp .ne 7, 3) := by decide +kernel
theorem dX14_isOver_21 : decode cX14_isOver 21 = .ok (.iconst 1, 1) := by decide +kernel
theorem dX14_isOver_22 : decode cX14_isOver 22 = .ok (.goto 4, 3) := by decide +kernel
theorem dX14_isOver_25 : decode cX14_isOver 25 = .ok (.iconst 0, 1) := by decide +kernel
theorem dX14_isOver_26 : decode cX14_isOver 26 = .ok (.ireturn, 1) := by decide +kernel
theorem dX14_isSteeped_0 : decode cX14_isSteeped 0 = .ok (.aload_n 0, 1) := by decide +kernel
theorem dX14_isSteeped_1 : decode cX14_isSteeped 1 = .ok (.iload_n 1, 1) := by decide +kernel
theorem dX14_isSteeped_2 : decode cX14_isSteeped 2 = .ok (.invokevirtual 345, 3) := by decide +kernel
theorem dX14_isSteeped_5 : decode cX14_isSteeped 5 = .ok (.ifCond .eq 20, 3) := by decide +kernel
theorem dX14_isSteeped_8 : decode cX14_isSteeped 8 = .ok (.aload_n 0, 1) := by decide +kernel
theorem dX14_isSteeped_9 : decode cX14_isSteeped 9 = .ok (.getfield 48, 3) := by decide +kernel
theorem dX14_isSteeped_12 : decode cX14_isSteeped 12 = .ok (.bipush 18, 2) := by decide +kernel
theorem dX14_isSteeped_14 : decode cX14_isSteeped 14 = .ok (.iload_n 1, 1) := by decide +kernel
theorem dX14_isSteeped_15 : decode cX14_isSteeped 15 = .ok (.iadd, 1) := by decide +kernel
theorem dX14_isSteeped_16 : decode cX14_isSteeped 16 = .ok (.iaload, 1) := by decide +kernel
theorem dX14_isSteeped_17 : decode cX14_isSteeped 17 = .ok (.iconst 1, 1) := by decide +kernel
theorem dX14_isSteeped_18 : decode cX14_isSteeped 18 = .ok (.if_icmp .ne 7, 3) := by decide +kernel
theorem dX14_isSteeped_21 : decode cX14_isSteeped 21 = .ok (.iconst 1, 1) := by decide +kernel
theorem dX14_isSteeped_22 : decode cX14_isSteeped 22 = .ok (.goto 4, 3) := by decide +kernel
theorem dX14_isSteeped_25 : decode cX14_isSteeped 25 = .ok (.iconst 0, 1) := by decide +kernel
theorem dX14_isSteeped_26 : decode cX14_isSteeped 26 = .ok (.ireturn, 1) := by decide +kernel
theorem dX14_isSeated_0 : decode cX14_isSeated 0 = .ok (.aload_n 0, 1) := by decide +kernel
theorem dX14_isSeated_1 : decode cX14_isSeated 1 = .ok (.iload_n 1, 1) := by decide +kernel
theorem dX14_isSeated_2 : decode cX14_isSeated 2 = .ok (.invokevirtual 348, 3) := by decide +kernel
theorem dX14_isSeated_5 : decode cX14_isSeated 5 = .ok (.ifCond .eq 20, 3) := by decide +kernel
theorem dX14_isSeated_8 : decode cX14_isSeated 8 = .ok (.aload_n 0, 1) := by decide +kernel
theorem dX14_isSeated_9 : decode cX14_isSeated 9 = .ok (.getfield 48, 3) := by decide +kernel
theorem dX14_isSeated_12 : decode cX14_isSeated 12 = .ok (.bipush 28, 2) := by decide +kernel
theorem dX14_isSeated_14 : decode cX14_isSeated 14 = .ok (.iload_n 1, 1) := by decide +kernel
theorem dX14_isSeated_15 : decode cX14_isSeated 15 = .ok (.iadd, 1) := by decide +kernel
theorem dX14_isSeated_16 : decode cX14_isSeated 16 = .ok (.iaload, 1) := by decide +kernel
theorem dX14_isSeated_17 : decode cX14_isSeated 17 = .ok (.iconst 1, 1) := by decide +kernel
theorem dX14_isSeated_18 : decode cX14_isSeated 18 = .ok (.if_icmp .ne 7, 3) := by decide +kernel
theorem dX14_isSeated_21 : decode cX14_isSeated 21 = .ok (.iconst 1, 1) := by decide +kernel
theorem dX14_isSeated_22 : decode cX14_isSeated 22 = .ok (.goto 4, 3) := by decide +kernel
theorem dX14_isSeated_25 : decode cX14_isSeated 25 = .ok (.iconst 0, 1) := by decide +kernel
theorem dX14_isSeated_26 : decode cX14_isSeated 26 = .ok (.ireturn, 1) := by decide +kernel
theorem dX14_isContent_0 : decode cX14_isContent 0 = .ok (.aload_n 0, 1) := by decide +kernel
theorem dX14_isContent_1 : decode cX14_isContent 1 = .ok (.iload_n 1, 1) := by decide +kernel
theorem dX14_isContent_2 : decode cX14_isContent 2 = .ok (.invokevirtual 348, 3) := by decide +kernel
theorem dX14_isContent_5 : decode cX14_isContent 5 = .ok (.ifCond .eq 15, 3) := by decide +kernel
theorem dX14_isContent_8 : decode cX14_isContent 8 = .ok (.aload_n 0, 1) := by decide +kernel
theorem dX14_isContent_9 : decode cX14_isContent 9 = .ok (.iload_n 1, 1) := by decide +kernel
theorem dX14_isContent_10 : decode cX14_isContent 10 = .ok (.invokevirtual 295, 3) := by decide +kernel
theorem dX14_isContent_13 : decode cX14_isContent 13 = .ok (.ifCond .eq 7, 3) := by decide +kernel
theorem dX14_isContent_16 : decode cX14_isContent 16 = .ok (.iconst 1, 1) := by decide +kernel
theorem dX14_isContent_17 : decode cX14_isContent 17 = .ok (.goto 4, 3) := by decide +kernel
theorem dX14_isContent_20 : decode cX14_isContent 20 = .ok (.iconst 0, 1) := by decide +kernel
theorem dX14_isContent_21 : decode cX14_isContent 21 = .ok (.ireturn, 1) := by decide +kernel
theorem dX14_wasServed_0 : decode cX14_wasServed 0 = .ok (.aload_n 0, 1) := by decide +kernel
theorem dX14_wasServed_1 : decode cX14_wasServed 1 = .ok (.iload_n 1, 1) := by decide +kernel
theorem dX14_wasServed_2 : decode cX14_wasServed 2 = .ok (.invokevirtual 348, 3) := by decide +kernel
theorem dX14_wasServed_5 : decode cX14_wasServed 5 = .ok (.ifCond .eq 20, 3) := by decide +kernel
theorem dX14_wasServed_8 : decode cX14_wasServed 8 = .ok (.aload_n 0, 1) := by decide +kernel
theorem dX14_wasServed_9 : decode cX14_wasServed 9 = .ok (.getfield 48, 3) := by decide +kernel
theorem dX14_wasServed_12 : decode cX14_wasServed 12 = .ok (.bipush 38, 2) := by decide +kernel
theorem dX14_wasServed_14 : decode cX14_wasServed 14 = .ok (.iload_n 1, 1) := by decide +kernel
theorem dX14_wasServed_15 : decode cX14_wasServed 15 = .ok (.iadd, 1) := by decide +kernel
theorem dX14_wasServed_16 : decode cX14_wasServed 16 = .ok (.iaload, 1) := by decide +kernel
theorem dX14_wasServed_17 : decode cX14_wasServed 17 = .ok (.iconst 1, 1) := by decide +kernel
theorem dX14_wasServed_18 : decode cX14_wasServed 18 = .ok (.if_icmp .ne 7, 3) := by decide +kernel
theorem dX14_wasServed_21 : decode cX14_wasServed 21 = .ok (.iconst 1, 1) := by decide +kernel
theorem dX14_wasServed_22 : decode cX14_wasServed 22 = .ok (.goto 4, 3) := by decide +kernel
theorem dX14_wasServed_25 : decode cX14_wasServed 25 = .ok (.iconst 0, 1) := by decide +kernel
theorem dX14_wasServed_26 : decode cX14_wasServed 26 = .ok (.ireturn, 1) := by decide +kernel
theorem dX14_wasStormed_0 : decode cX14_wasStormed 0 = .ok (.aload_n 0, 1) := by decide +kernel
theorem dX14_wasStormed_1 : decode cX14_wasStormed 1 = .ok (.iload_n 1, 1) := by decide +kernel
theorem dX14_wasStormed_2 : decode cX14_wasStormed 2 = .ok (.invokevirtual 348, 3) := by decide +kernel
theorem dX14_wasStormed_5 : decode cX14_wasStormed 5 = .ok (.ifCond .eq 20, 3) := by decide +kernel
theorem dX14_wasStormed_8 : decode cX14_wasStormed 8 = .ok (.aload_n 0, 1) := by decide +kernel
theorem dX14_wasStormed_9 : decode cX14_wasStormed 9 = .ok (.getfield 48, 3) := by decide +kernel
theorem dX14_wasStormed_12 : decode cX14_wasStormed 12 = .ok (.bipush 48, 2) := by decide +kernel
theorem dX14_wasStormed_14 : decode cX14_wasStormed 14 = .ok (.iload_n 1, 1) := by decide +kernel
theorem dX14_wasStormed_15 : decode cX14_wasStormed 15 = .ok (.iadd, 1) := by decide +kernel
theorem dX14_wasStormed_16 : decode cX14_wasStormed 16 = .ok (.iaload, 1) := by decide +kernel
theorem dX14_wasStormed_17 : decode cX14_wasStormed 17 = .ok (.iconst 1, 1) := by decide +kernel
theorem dX14_wasStormed_18 : decode cX14_wasStormed 18 = .ok (.if_icmp .ne 7, 3) := by decide +kernel
theorem dX14_wasStormed_21 : decode cX14_wasStormed 21 = .ok (.iconst 1, 1) := by decide +kernel
theorem dX14_wasStormed_22 : decode cX14_wasStormed 22 = .ok (.goto 4, 3) := by decide +kernel
theorem dX14_wasStormed_25 : decode cX14_wasStormed 25 = .ok (.iconst 0, 1) := by decide +kernel
theorem dX14_wasStormed_26 : decode cX14_wasStormed 26 = .ok (.ireturn, 1) := by decide +kernel
theorem dX14_steep_0 : decode cX14_steep 0 = .ok (.aload_n 0, 1) := by decide +kernel
theorem dX14_steep_1 : decode cX14_steep 1 = .ok (.iload_n 1, 1) := by decide +kernel
theorem dX14_steep_2 : decode cX14_steep 2 = .ok (.invokevirtual 345, 3) := by decide +kernel
theorem dX14_steep_5 : decode cX14_steep 5 = .ok (.ifCond .ne 5, 3) := by decide +kernel
theorem dX14_steep_8 : decode cX14_steep 8 = .ok (.iconst 0, 1) := by decide +kernel
theorem dX14_steep_9 : decode cX14_steep 9 = .ok (.ireturn, 1) := by decide +kernel
theorem dX14_steep_10 : decode cX14_steep 10 = .ok (.aload_n 0, 1) := by decide +kernel
theorem dX14_steep_11 : decode cX14_steep 11 = .ok (.iload_n 1, 1) := by decide +kernel
theorem dX14_steep_12 : decode cX14_steep 12 = .ok (.invokevirtual 304, 3) := by decide +kernel
theorem dX14_steep_15 : decode cX14_steep 15 = .ok (.ifCond .ne 9, 3) := by decide +kernel
theorem dX14_steep_18 : decode cX14_steep 18 = .ok (.aload_n 0, 1) := by decide +kernel
theorem dX14_steep_19 : decode cX14_steep 19 = .ok (.iconst 2, 1) := by decide +kernel
theorem dX14_steep_20 : decode cX14_steep 20 = .ok (.invokevirtual 276, 3) := by decide +kernel
theorem dX14_steep_23 : decode cX14_steep 23 = .ok (.ireturn, 1) := by decide +kernel
theorem dX14_steep_24 : decode cX14_steep 24 = .ok (.aload_n 0, 1) := by decide +kernel
theorem dX14_steep_25 : decode cX14_steep 25 = .ok (.iload_n 1, 1) := by decide +kernel
theorem dX14_steep_26 : decode cX14_steep 26 = .ok (.invokevirtual 307, 3) := by decide +kernel
theorem dX14_steep_29 : decode cX14_steep 29 = .ok (.aload_n 0, 1) := by decide +kernel
theorem dX14_steep_30 : decode cX14_steep 30 = .ok (.getfield 48, 3) := by decide +kernel
theorem dX14_steep_33 : decode cX14_steep 33 = .ok (.iconst 2, 1) := by decide +kernel
theorem dX14_steep_34 : decode cX14_steep 34 = .ok (.iaload, 1) := by decide +kernel
theorem dX14_steep_35 : decode cX14_steep 35 = .ok (.ireturn, 1) := by decide +kernel
theorem dX14_lemon_0 : decode cX14_lemon 0 = .ok (.aload_n 0, 1) := by decide +kernel
theorem dX14_lemon_1 : decode cX14_lemon 1 = .ok (.getfield 48, 3) := by decide +kernel
theorem dX14_lemon_4 : decode cX14_lemon 4 = .ok (.iconst 4, 1) := by decide +kernel
theorem dX14_lemon_5 : decode cX14_lemon 5 = .ok (.iaload, 1) := by decide +kernel
theorem dX14_lemon_6 : decode cX14_lemon 6 = .ok (.ifCond .ne 9, 3) := by decide +kernel
theorem dX14_lemon_9 : decode cX14_lemon 9 = .ok (.aload_n 0, 1) := by decide +kernel
theorem dX14_lemon_10 : decode cX14_lemon 10 = .ok (.iconst 1, 1) := by decide +kernel
theorem dX14_lemon_11 : decode cX14_lemon 11 = .ok (.invokevirtual 276, 3) := by decide +kernel
theorem dX14_lemon_14 : decode cX14_lemon 14 = .ok (.ireturn, 1) := by decide +kernel
theorem dX14_lemon_15 : decode cX14_lemon 15 = .ok (.aload_n 0, 1) := by decide +kernel
theorem dX14_lemon_16 : decode cX14_lemon 16 = .ok (.invokevirtual 310, 3) := by decide +kernel
theorem dX14_lemon_19 : decode cX14_lemon 19 = .ok (.aload_n 0, 1) := by decide +kernel
theorem dX14_lemon_20 : decode cX14_lemon 20 = .ok (.aload_n 0, 1) := by decide +kernel
theorem dX14_lemon_21 : decode cX14_lemon 21 = .ok (.getfield 48, 3) := by decide +kernel
theorem dX14_lemon_24 : decode cX14_lemon 24 = .ok (.iconst 3, 1) := by decide +kernel
theorem dX14_lemon_25 : decode cX14_lemon 25 = .ok (.iaload, 1) := by decide +kernel
theorem dX14_lemon_26 : decode cX14_lemon 26 = .ok (.invokevirtual 292, 3) := by decide +kernel
theorem dX14_lemon_29 : decode cX14_lemon 29 = .ok (.ireturn, 1) := by decide +kernel
theorem dX14_saucer_0 : decode cX14_saucer 0 = .ok (.aload_n 0, 1) := by decide +kernel
theorem dX14_saucer_1 : decode cX14_saucer 1 = .ok (.getfield 48, 3) := by decide +kernel
theorem dX14_saucer_4 : decode cX14_saucer 4 = .ok (.iconst 5, 1) := by decide +kernel
theorem dX14_saucer_5 : decode cX14_saucer 5 = .ok (.iaload, 1) := by decide +kernel
theorem dX14_saucer_6 : decode cX14_saucer 6 = .ok (.ifCond .ne 9, 3) := by decide +kernel
theorem dX14_saucer_9 : decode cX14_saucer 9 = .ok (.aload_n 0, 1) := by decide +kernel
theorem dX14_saucer_10 : decode cX14_saucer 10 = .ok (.iconst 1, 1) := by decide +kernel
theorem dX14_saucer_11 : decode cX14_saucer 11 = .ok (.invokevirtual 276, 3) := by decide +kernel
theorem dX14_saucer_14 : decode cX14_saucer 14 = .ok (.ireturn, 1) := by decide +kernel
theorem dX14_saucer_15 : decode cX14_saucer 15 = .ok (.aload_n 0, 1) := by decide +kernel
theorem dX14_saucer_16 : decode cX14_saucer 16 = .ok (.invokevirtual 313, 3) := by decide +kernel
theorem dX14_saucer_19 : decode cX14_saucer 19 = .ok (.aload_n 0, 1) := by decide +kernel
theorem dX14_saucer_20 : decode cX14_saucer 20 = .ok (.aload_n 0, 1) := by decide +kernel
theorem dX14_saucer_21 : decode cX14_saucer 21 = .ok (.getfield 48, 3) := by decide +kernel
theorem dX14_saucer_24 : decode cX14_saucer 24 = .ok (.iconst 3, 1) := by decide +kernel
theorem dX14_saucer_25 : decode cX14_saucer 25 = .ok (.iaload, 1) := by decide +kernel
theorem dX14_saucer_26 : decode cX14_saucer 26 = .ok (.invokevirtual 292, 3) := by decide +kernel
theorem dX14_saucer_29 : decode cX14_saucer 29 = .ok (.ireturn, 1) := by decide +kernel
theorem dX14_serve_0 : decode cX14_serve 0 = .ok (.aload_n 0, 1) := by decide +kernel
theorem dX14_serve_1 : decode cX14_serve 1 = .ok (.iload_n 1, 1) := by decide +kernel
theorem dX14_serve_2 : decode cX14_serve 2 = .ok (.invokevirtual 348, 3) := by decide +kernel
theorem dX14_serve_5 : decode cX14_serve 5 = .ok (.ifCond .ne 5, 3) := by decide +kernel
theorem dX14_serve_8 : decode cX14_serve 8 = .ok (.iconst 0, 1) := by decide +kernel
theorem dX14_serve_9 : decode cX14_serve 9 = .ok (.ireturn, 1) := by decide +kernel
theorem dX14_serve_10 : decode cX14_serve 10 = .ok (.aload_n 0, 1) := by decide +kernel
theorem dX14_serve_11 : decode cX14_serve 11 = .ok (.iload_n 1, 1) := by decide +kernel
theorem dX14_serve_12 : decode cX14_serve 12 = .ok (.invokevirtual 295, 3) := by decide +kernel
theorem dX14_serve_15 : decode cX14_serve 15 = .ok (.ifCond .eq 11, 3) := by decide +kernel
theorem dX14_serve_18 : decode cX14_serve 18 = .ok (.aload_n 0, 1) := by decide +kernel
theorem dX14_serve_19 : decode cX14_serve 19 = .ok (.iload_n 1, 1) := by decide +kernel
theorem dX14_serve_20 : decode cX14_serve 20 = .ok (.invokevirtual 316, 3) := by decide +kernel
theorem dX14_serve_23 : decode cX14_serve 23 = .ok (.goto 8, 3) := by decide +kernel
theorem dX14_serve_26 : decode cX14_serve 26 = .ok (.aload_n 0, 1) := by decide +kernel
theorem dX14_serve_27 : decode cX14_serve 27 = .ok (.iconst 2, 1) := by decide +kernel
theorem dX14_serve_28 : decode cX14_serve 28 = .ok (.invokevirtual 276, 3) := by decide +kernel
theorem dX14_serve_31 : decode cX14_serve 31 = .ok (.ireturn, 1) := by decide +kernel
theorem dX14_heat_0 : decode cX14_heat 0 = .ok (.aload_n 0, 1) := by decide +kernel
theorem dX14_heat_1 : decode cX14_heat 1 = .ok (.iconst 0, 1) := by decide +kernel
theorem dX14_heat_2 : decode cX14_heat 2 = .ok (.putfield 57, 3) := by decide +kernel
theorem dX14_heat_5 : decode cX14_heat 5 = .ok (.iload_n 1, 1) := by decide +kernel
theorem dX14_heat_6 : decode cX14_heat 6 = .ok (.iconst 0, 1) := by decide +kernel
theorem dX14_heat_7 : decode cX14_heat 7 = .ok (.bipush 40, 2) := by decide +kernel
theorem dX14_heat_9 : decode cX14_heat 9 = .ok (.invokestatic 72, 3) := by decide +kernel
theorem dX14_heat_12 : decode cX14_heat 12 = .ok (.ifCond .ne 9, 3) := by decide +kernel
theorem dX14_heat_15 : decode cX14_heat 15 = .ok (.aload_n 0, 1) := by decide +kernel
theorem dX14_heat_16 : decode cX14_heat 16 = .ok (.iconst 1, 1) := by decide +kernel
theorem dX14_heat_17 : decode cX14_heat 17 = .ok (.invokevirtual 276, 3) := by decide +kernel
theorem dX14_heat_20 : decode cX14_heat 20 = .ok (.ireturn, 1) := by decide +kernel
theorem dX14_heat_21 : decode cX14_heat 21 = .ok (.aload_n 0, 1) := by decide +kernel
theorem dX14_heat_22 : decode cX14_heat 22 = .ok (.getfield 48, 3) := by decide +kernel
theorem dX14_heat_25 : decode cX14_heat 25 = .ok (.iconst 1, 1) := by decide +kernel
theorem dX14_heat_26 : decode cX14_heat 26 = .ok (.iaload, 1) := by decide +kernel
theorem dX14_heat_27 : decode cX14_heat 27 = .ok (.istore_n 2, 1) := by decide +kernel
theorem dX14_heat_28 : decode cX14_heat 28 = .ok (.aload_n 0, 1) := by decide +kernel
theorem dX14_heat_29 : decode cX14_heat 29 = .ok (.getfield 48, 3) := by decide +kernel
theorem dX14_heat_32 : decode cX14_heat 32 = .ok (.iconst 1, 1) := by decide +kernel
theorem dX14_heat_33 : decode cX14_heat 33 = .ok (.iload_n 1, 1) := by decide +kernel
theorem dX14_heat_34 : decode cX14_heat 34 = .ok (.iastore, 1) := by decide +kernel
theorem dX14_heat_35 : decode cX14_heat 35 = .ok (.iload_n 2, 1) := by decide +kernel
theorem dX14_heat_36 : decode cX14_heat 36 = .ok (.ireturn, 1) := by decide +kernel
theorem dX14_passHours_0 : decode cX14_passHours 0 = .ok (.aload_n 0, 1) := by decide +kernel
theorem dX14_passHours_1 : decode cX14_passHours 1 = .ok (.iconst 0, 1) := by decide +kernel
theorem dX14_passHours_2 : decode cX14_passHours 2 = .ok (.putfield 57, 3) := by decide +kernel
theorem dX14_passHours_5 : decode cX14_passHours 5 = .ok (.iload_n 1, 1) := by decide +kernel
theorem dX14_passHours_6 : decode cX14_passHours 6 = .ok (.iconst 1, 1) := by decide +kernel
theorem dX14_passHours_7 : decode cX14_passHours 7 = .ok (.bipush 30, 2) := by decide +kernel
theorem dX14_passHours_9 : decode cX14_passHours 9 = .ok (.invokestatic 72, 3) := by decide +kernel
theorem dX14_passHours_12 : decode cX14_passHours 12 = .ok (.ifCond .ne 9, 3) := by decide +kernel
theorem dX14_passHours_15 : decode cX14_passHours 15 = .ok (.aload_n 0, 1) := by decide +kernel
theorem dX14_passHours_16 : decode cX14_passHours 16 = .ok (.iconst 1, 1) := by decide +kernel
theorem dX14_passHours_17 : decode cX14_passHours 17 = .ok (.invokevirtual 276, 3) := by decide +kernel
theorem dX14_passHours_20 : decode cX14_passHours 20 = .ok (.ireturn, 1) := by decide +kernel
theorem dX14_passHours_21 : decode cX14_passHours 21 = .ok (.aload_n 0, 1) := by decide +kernel
theorem dX14_passHours_22 : decode cX14_passHours 22 = .ok (.getfield 48, 3) := by decide +kernel
theorem dX14_passHours_25 : decode cX14_passHours 25 = .ok (.bipush 6, 2) := by decide +kernel
theorem dX14_passHours_27 : decode cX14_passHours 27 = .ok (.iaload, 1) := by decide +kernel
theorem dX14_passHours_28 : decode cX14_passHours 28 = .ok (.istore_n 2, 1) := by decide +kernel
theorem dX14_passHours_29 : decode cX14_passHours 29 = .ok (.iconst 0, 1) := by decide +kernel
theorem dX14_passHours_30 : decode cX14_passHours 30 = .ok (.istore_n 3, 1) := by decide +kernel
theorem dX14_passHours_31 : decode cX14_passHours 31 = .ok (.iload_n 3, 1) := by decide +kernel
theorem dX14_passHours_32 : decode cX14_passHours 32 = .ok (.iload_n 1, 1) := by decide +kernel
theorem dX14_passHours_33 : decode cX14_passHours 33 = .ok (.if_icmp .ge 13, 3) := by decide +kernel
theorem dX14_passHours_36 : decode cX14_passHours 36 = .ok (.aload_n 0, 1) := by decide +kernel
theorem dX14_passHours_37 : decode cX14_passHours 37 = .ok (.invokevirtual 351, 3) := by decide +kernel
theorem dX14_passHours_40 : decode cX14_passHours 40 = .ok (.iinc 3 1, 3) := by decide +kernel
theorem dX14_passHours_43 : decode cX14_passHours 43 = .ok (.goto (-12), 3) := by decide +kernel
theorem dX14_passHours_46 : decode cX14_passHours 46 = .ok (.aload_n 0, 1) := by decide +kernel
theorem dX14_passHours_47 : decode cX14_passHours 47 = .ok (.getfield 48, 3) := by decide +kernel
theorem dX14_passHours_50 : decode cX14_passHours 50 = .ok (.bipush 6, 2) := by decide +kernel
theorem dX14_passHours_52 : decode cX14_passHours 52 = .ok (.iaload, 1) := by decide +kernel
theorem dX14_passHours_53 : decode cX14_passHours 53 = .ok (.iload_n 2, 1) := by decide +kernel
theorem dX14_passHours_54 : decode cX14_passHours 54 = .ok (.isub, 1) := by decide +kernel
theorem dX14_passHours_55 : decode cX14_passHours 55 = .ok (.ireturn, 1) := by decide +kernel
theorem dX14_coinsAfter_0 : decode cX14_coinsAfter 0 = .ok (.aload_n 0, 1) := by decide +kernel
theorem dX14_coinsAfter_1 : decode cX14_coinsAfter 1 = .ok (.iconst 0, 1) := by decide +kernel
theorem dX14_coinsAfter_2 : decode cX14_coinsAfter 2 = .ok (.putfield 57, 3) := by decide +kernel
theorem dX14_coinsAfter_5 : decode cX14_coinsAfter 5 = .ok (.iload_n 1, 1) := by decide +kernel
theorem dX14_coinsAfter_6 : decode cX14_coinsAfter 6 = .ok (.iconst 1, 1) := by decide +kernel
theorem dX14_coinsAfter_7 : decode cX14_coinsAfter 7 = .ok (.bipush 30, 2) := by decide +kernel
theorem dX14_coinsAfter_9 : decode cX14_coinsAfter 9 = .ok (.invokestatic 72, 3) := by decide +kernel
theorem dX14_coinsAfter_12 : decode cX14_coinsAfter 12 = .ok (.ifCond .ne 9, 3) := by decide +kernel
theorem dX14_coinsAfter_15 : decode cX14_coinsAfter 15 = .ok (.aload_n 0, 1) := by decide +kernel
theorem dX14_coinsAfter_16 : decode cX14_coinsAfter 16 = .ok (.iconst 1, 1) := by decide +kernel
theorem dX14_coinsAfter_17 : decode cX14_coinsAfter 17 = .ok (.invokevirtual 276, 3) := by decide +kernel
theorem dX14_coinsAfter_20 : decode cX14_coinsAfter 20 = .ok (.ireturn, 1) := by decide +kernel
theorem dX14_coinsAfter_21 : decode cX14_coinsAfter 21 = .ok (.aload_n 0, 1) := by decide +kernel
theorem dX14_coinsAfter_22 : decode cX14_coinsAfter 22 = .ok (.invokevirtual 354, 3) := by decide +kernel
theorem dX14_coinsAfter_25 : decode cX14_coinsAfter 25 = .ok (.iconst 0, 1) := by decide +kernel
theorem dX14_coinsAfter_26 : decode cX14_coinsAfter 26 = .ok (.istore_n 2, 1) := by decide +kernel
theorem dX14_coinsAfter_27 : decode cX14_coinsAfter 27 = .ok (.iload_n 2, 1) := by decide +kernel
theorem dX14_coinsAfter_28 : decode cX14_coinsAfter 28 = .ok (.iload_n 1, 1) := by decide +kernel
theorem dX14_coinsAfter_29 : decode cX14_coinsAfter 29 = .ok (.if_icmp .ge 13, 3) := by decide +kernel
theorem dX14_coinsAfter_32 : decode cX14_coinsAfter 32 = .ok (.aload_n 0, 1) := by decide +kernel
theorem dX14_coinsAfter_33 : decode cX14_coinsAfter 33 = .ok (.invokevirtual 351, 3) := by decide +kernel
theorem dX14_coinsAfter_36 : decode cX14_coinsAfter 36 = .ok (.iinc 2 1, 3) := by decide +kernel
theorem dX14_coinsAfter_39 : decode cX14_coinsAfter 39 = .ok (.goto (-12), 3) := by decide +kernel
theorem dX14_coinsAfter_42 : decode cX14_coinsAfter 42 = .ok (.aload_n 0, 1) := by decide +kernel
theorem dX14_coinsAfter_43 : decode cX14_coinsAfter 43 = .ok (.getfield 48, 3) := by decide +kernel
theorem dX14_coinsAfter_46 : decode cX14_coinsAfter 46 = .ok (.bipush 7, 2) := by decide +kernel
theorem dX14_coinsAfter_48 : decode cX14_coinsAfter 48 = .ok (.iaload, 1) := by decide +kernel
theorem dX14_coinsAfter_49 : decode cX14_coinsAfter 49 = .ok (.istore_n 2, 1) := by decide +kernel
theorem dX14_coinsAfter_50 : decode cX14_coinsAfter 50 = .ok (.aload_n 0, 1) := by decide +kernel
theorem dX14_coinsAfter_51 : decode cX14_coinsAfter 51 = .ok (.invokevirtual 357, 3) := by decide +kernel
theorem dX14_coinsAfter_54 : decode cX14_coinsAfter 54 = .ok (.iload_n 2, 1) := by decide +kernel
theorem dX14_coinsAfter_55 : decode cX14_coinsAfter 55 = .ok (.ireturn, 1) := by decide +kernel
theorem dX14_until_0 : decode cX14_until 0 = .ok (.aload_n 0, 1) := by decide +kernel
theorem dX14_until_1 : decode cX14_until 1 = .ok (.invokevirtual 354, 3) := by decide +kernel
theorem dX14_until_4 : decode cX14_until 4 = .ok (.iconst (-1), 1) := by decide +kernel
theorem dX14_until_5 : decode cX14_until 5 = .ok (.istore_n 2, 1) := by decide +kernel
theorem dX14_until_6 : decode cX14_until 6 = .ok (.iconst 1, 1) := by decide +kernel
theorem dX14_until_7 : decode cX14_until 7 = .ok (.istore_n 3, 1) := by decide +kernel
theorem dX14_until_8 : decode cX14_until 8 = .ok (.iload_n 3, 1) := by decide +kernel
theorem dX14_until_9 : decode cX14_until 9 = .ok (.bipush 60, 2) := by decide +kernel
theorem dX14_until_11 : decode cX14_until 11 = .ok (.if_icmp .gt 35, 3) := by decide +kernel
theorem dX14_until_14 : decode cX14_until 14 = .ok (.iload_n 2, 1) := by decide +kernel
theorem dX14_until_15 : decode cX14_until 15 = .ok (.iconst (-1), 1) := by decide +kernel
theorem dX14_until_16 : decode cX14_until 16 = .ok (.if_icmp .ne 30, 3) := by decide +kernel
theorem dX14_until_19 : decode cX14_until 19 = .ok (.aload_n 0, 1) := by decide +kernel
theorem dX14_until_20 : decode cX14_until 20 = .ok (.invokevirtual 351, 3) := by decide +kernel
theorem dX14_until_23 : decode cX14_until 23 = .ok (.aload_n 0, 1) := by decide +kernel
theorem dX14_until_24 : decode cX14_until 24 = .ok (.getfield 48, 3) := by decide +kernel
theorem dX14_until_27 : decode cX14_until 27 = .ok (.iload_n 1, 1) := by decide +kernel
theorem dX14_until_28 : decode cX14_until 28 = .ok (.iaload, 1) := by decide +kernel
theorem dX14_until_29 : decode cX14_until 29 = .ok (.aload_n 0, 1) := by decide +kernel
theorem dX14_until_30 : decode cX14_until 30 = .ok (.getfield 51, 3) := by decide +kernel
theorem dX14_until_33 : decode cX14_until 33 = .ok (.iload_n 1, 1) := by decide +kernel
theorem dX14_until_34 : decode cX14_until 34 = .ok (.iaload, 1) := by decide +kernel
theorem dX14_until_35 : decode cX14_until 35 = .ok (.if_icmp .le 5, 3) := by decide +kernel
theorem dX14_until_38 : decode cX14_until 38 = .ok (.iload_n 3, 1) := by decide +kernel
theorem dX14_until_39 : decode cX14_until 39 = .ok (.istore_n 2, 1) := by decide +kernel
theorem dX14_until_40 : decode cX14_until 40 = .ok (.iinc 3 1, 3) := by decide +kernel
theorem dX14_until_43 : decode cX14_until 43 = .ok (.goto (-35), 3) := by decide +kernel
theorem dX14_until_46 : decode cX14_until 46 = .ok (.aload_n 0, 1) := by decide +kernel
theorem dX14_until_47 : decode cX14_until 47 = .ok (.invokevirtual 357, 3) := by decide +kernel
theorem dX14_until_50 : decode cX14_until 50 = .ok (.iload_n 2, 1) := by decide +kernel
theorem dX14_until_51 : decode cX14_until 51 = .ok (.ireturn, 1) := by decide +kernel
theorem dX14_hoursUntilStorm_0 : decode cX14_hoursUntilStorm 0 = .ok (.aload_n 0, 1) := by decide +kernel
theorem dX14_hoursUntilStorm_1 : decode cX14_hoursUntilStorm 1 = .ok (.aload_n 0, 1) := by decide +kernel
theorem dX14_hoursUntilStorm_2 : decode cX14_hoursUntilStorm 2 = .ok (.bipush 6, 2) := by decide +kernel
theorem dX14_hoursUntilStorm_4 : decode cX14_hoursUntilStorm 4 = .ok (.invokevirtual 360, 3) := by decide +kernel
theorem dX14_hoursUntilStorm_7 : decode cX14_hoursUntilStorm 7 = .ok (.invokevirtual 292, 3) := by decide +kernel
theorem dX14_hoursUntilStorm_10 : decode cX14_hoursUntilStorm 10 = .ok (.ireturn, 1) := by decide +kernel
theorem dX14_hoursUntilServed_0 : decode cX14_hoursUntilServed 0 = .ok (.aload_n 0, 1) := by decide +kernel
theorem dX14_hoursUntilServed_1 : decode cX14_hoursUntilServed 1 = .ok (.iload_n 1, 1) := by decide +kernel
theorem dX14_hoursUntilServed_2 : decode cX14_hoursUntilServed 2 = .ok (.invokevirtual 348, 3) := by decide +kernel
theorem dX14_hoursUntilServed_5 : decode cX14_hoursUntilServed 5 = .ok (.ifCond .ne 5, 3) := by decide +kernel
theorem dX14_hoursUntilServed_8 : decode cX14_hoursUntilServed 8 = .ok (.iconst 0, 1) := by decide +kernel
theorem dX14_hoursUntilServed_9 : decode cX14_hoursUntilServed 9 = .ok (.ireturn, 1) := by decide +kernel
theorem dX14_hoursUntilServed_10 : decode cX14_hoursUntilServed 10 = .ok (.aload_n 0, 1) := by decide +kernel
theorem dX14_hoursUntilServed_11 : decode cX14_hoursUntilServed 11 = .ok (.getfield 48, 3) := by decide +kernel
theorem dX14_hoursUntilServed_14 : decode cX14_hoursUntilServed 14 = .ok (.bipush 38, 2) := by decide +kernel
theorem dX14_hoursUntilServed_16 : decode cX14_hoursUntilServed 16 = .ok (.iload_n 1, 1) := by decide +kernel
theorem dX14_hoursUntilServed_17 : decode cX14_hoursUntilServed 17 = .ok (.iadd, 1) := by decide +kernel
theorem dX14_hoursUntilServed_18 : decode cX14_hoursUntilServed 18 = .ok (.iaload, 1) := by decide +kernel
theorem dX14_hoursUntilServed_19 : decode cX14_hoursUntilServed 19 = .ok (.iconst 1, 1) := by decide +kernel
theorem dX14_hoursUntilServed_20 : decode cX14_hoursUntilServed 20 = .ok (.if_icmp .ne 7, 3) := by decide +kernel
theorem dX14_hoursUntilServed_23 : decode cX14_hoursUntilServed 23 = .ok (.iconst 0, 1) := by decide +kernel
theorem dX14_hoursUntilServed_24 : decode cX14_hoursUntilServed 24 = .ok (.goto 11, 3) := by decide +kernel
theorem dX14_hoursUntilServed_27 : decode cX14_hoursUntilServed 27 = .ok (.aload_n 0, 1) := by decide +kernel
theorem dX14_hoursUntilServed_28 : decode cX14_hoursUntilServed 28 = .ok (.bipush 38, 2) := by decide +kernel
theorem dX14_hoursUntilServed_30 : decode cX14_hoursUntilServed 30 = .ok (.iload_n 1, 1) := by decide +kernel
theorem dX14_hoursUntilServed_31 : decode cX14_hoursUntilServed 31 = .ok (.iadd, 1) := by decide +kernel
theorem dX14_hoursUntilServed_32 : decode cX14_hoursUntilServed 32 = .ok (.invokevirtual 360, 3) := by decide +kernel
theorem dX14_hoursUntilServed_35 : decode cX14_hoursUntilServed 35 = .ok (.ireturn, 1) := by decide +kernel
theorem dX14_best_0 : decode cX14_best 0 = .ok (.iconst (-1), 1) := by decide +kernel
theorem dX14_best_1 : decode cX14_best 1 = .ok (.istore_n 1, 1) := by decide +kernel
theorem dX14_best_2 : decode cX14_best 2 = .ok (.iconst 0, 1) := by decide +kernel
theorem dX14_best_3 : decode cX14_best 3 = .ok (.istore_n 2, 1) := by decide +kernel
theorem dX14_best_4 : decode cX14_best 4 = .ok (.aload_n 0, 1) := by decide +kernel
theorem dX14_best_5 : decode cX14_best 5 = .ok (.getfield 48, 3) := by decide +kernel
theorem dX14_best_8 : decode cX14_best 8 = .ok (.iconst 2, 1) := by decide +kernel
theorem dX14_best_9 : decode cX14_best 9 = .ok (.iaload, 1) := by decide +kernel
theorem dX14_best_10 : decode cX14_best 10 = .ok (.istore_n 3, 1) := by decide +kernel
theorem dX14_best_11 : decode cX14_best 11 = .ok (.iconst 0, 1) := by decide +kernel
theorem dX14_best_12 : decode cX14_best 12 = .ok (.istore 4, 2) := by decide +kernel
theorem dX14_best_14 : decode cX14_best 14 = .ok (.iload 4, 2) := by decide +kernel
theorem dX14_best_16 : decode cX14_best 16 = .ok (.aload_n 0, 1) := by decide +kernel
theorem dX14_best_17 : decode cX14_best 17 = .ok (.getfield 38, 3) := by decide +kernel
theorem dX14_best_20 : decode cX14_best 20 = .ok (.getfield 168, 3) := by decide +kernel
theorem dX14_best_23 : decode cX14_best 23 = .ok (.if_icmp .ge 114, 3) := by decide +kernel
theorem dX14_best_26 : decode cX14_best 26 = .ok (.aload_n 0, 1) := by decide +kernel
theorem dX14_best_27 : decode cX14_best 27 = .ok (.iload 4, 2) := by decide +kernel
theorem dX14_best_29 : decode cX14_best 29 = .ok (.invokevirtual 304, 3) := by decide +kernel
theorem dX14_best_32 : decode cX14_best 32 = .ok (.ifCond .ne 6, 3) := by decide +kernel
theorem dX14_best_35 : decode cX14_best 35 = .ok (.goto 96, 3) := by decide +kernel
theorem dX14_best_38 : decode cX14_best 38 = .ok (.aload_n 0, 1) := by decide +kernel
theorem dX14_best_39 : decode cX14_best 39 = .ok (.getfield 48, 3) := by decide +kernel
theorem dX14_best_42 : decode cX14_best 42 = .ok (.iconst 2, 1) := by decide +kernel
theorem dX14_best_43 : decode cX14_best 43 = .ok (.bipush 30, 2) := by decide +kernel
theorem dX14_best_45 : decode cX14_best 45 = .ok (.iload_n 3, 1) := by decide +kernel
theorem dX14_best_46 : decode cX14_best 46 = .ok (.aload_n 0, 1) := by decide +kernel
theorem dX14_best_47 : decode cX14_best 47 = .ok (.getfield 38, 3) := by decide +kernel
theorem dX14_best_50 : decode cX14_best 50 = .ok (.getfield 226, 3) := by decide +kernel
theorem dX14_best_53 : decode cX14_best 53 = .ok (.iload 4, 2) := by decide +kernel
theorem dX14_best_55 : decode cX14_best 55 = .ok (.iaload, 1) := by decide +kernel
theorem dX14_best_56 : decode cX14_best 56 = .ok (.iadd, 1) := by decide +kernel
theorem dX14_best_57 : decode cX14_best 57 = .ok (.invokestatic 60, 3) := by decide +kernel
theorem dX14_best_60 : decode cX14_best 60 = .ok (.iastore, 1) := by decide +kernel
theorem dX14_best_61 : decode cX14_best 61 = .ok (.iconst 0, 1) := by decide +kernel
theorem dX14_best_62 : decode cX14_best 62 = .ok (.istore 5, 2) := by decide +kernel
theorem dX14_best_64 : decode cX14_best 64 = .ok (.iconst 0, 1) := by decide +kernel
theorem dX14_best_65 : decode cX14_best 65 = .ok (.istore 6, 2) := by decide +kernel
theorem dX14_best_67 : decode cX14_best 67 = .ok (.iload 6, 2) := by decide +kernel
theorem dX14_best_69 : decode cX14_best 69 = .ok (.aload_n 0, 1) := by decide +kernel
theorem dX14_best_70 : decode cX14_best 70 = .ok (.getfield 38, 3) := by decide +kernel
theorem dX14_best_73 : decode cX14_best 73 = .ok (.getfield 174, 3) := by decide +kernel
theorem dX14_best_76 : decode cX14_best 76 = .ok (.if_icmp .ge 28, 3) := by decide +kernel
theorem dX14_best_79 : decode cX14_best 79 = .ok (.iload 5, 2) := by decide +kernel
theorem dX14_best_81 : decode cX14_best 81 = .ok (.aload_n 0, 1) := by decide +kernel
theorem dX14_best_82 : decode cX14_best 82 = .ok (.iload 6, 2) := by decide +kernel
theorem dX14_best_84 : decode cX14_best 84 = .ok (.invokevirtual 295, 3) := by decide +kernel
theorem dX14_best_87 : decode cX14_best 87 = .ok (.ifCond .eq 7, 3) := by decide +kernel
theorem dX14_best_90 : decode cX14_best 90 = .ok (.iconst 1, 1) := by decide +kernel
theorem dX14_best_91 : decode cX14_best 91 = .ok (.goto 4, 3) := by decide +kernel
theorem dX14_best_94 : decode cX14_best 94 = .ok (.iconst 0, 1) := by decide +kernel
theorem dX14_best_95 : decode cX14_best 95 = .ok (.iadd, 1) := by decide +kernel
theorem dX14_best_96 : decode cX14_best 96 = .ok (.istore 5, 2) := by decide +kernel
theorem dX14_best_98 : decode cX14_best 98 = .ok (.iinc 6 1, 3) := by decide +kernel
theorem dX14_best_101 : decode cX14_best 101 = .ok (.goto (-34), 3) := by decide +kernel
theorem dX14_best_104 : decode cX14_best 104 = .ok (.aload_n 0, 1) := by decide +kernel
theorem dX14_best_105 : decode cX14_best 105 = .ok (.getfield 48, 3) := by decide +kernel
theorem dX14_best_108 : decode cX14_best 108 = .ok (.iconst 2, 1) := by decide +kernel
theorem dX14_best_109 : decode cX14_best 109 = .ok (.iload_n 3, 1) := by decide +kernel
theorem dX14_best_110 : decode cX14_best 110 = .ok (.iastore, 1) := by decide +kernel
theorem dX14_best_111 : decode cX14_best 111 = .ok (.iload_n 1, 1) := by decide +kernel
theorem dX14_best_112 : decode cX14_best 112 = .ok (.iconst (-1), 1) := by decide +kernel
theorem dX14_best_113 : decode cX14_best 113 = .ok (.if_icmp .eq 12, 3) := by decide +kernel
theorem dX14_best_116 : decode cX14_best 116 = .ok (.iload 5, 2) := by decide +kernel
theorem dX14_best_118 : decode cX14_best 118 = .ok (.iload_n 2, 1) := by decide +kernel
theorem dX14_best_119 : decode cX14_best 119 = .ok (.if_icmp .gt 6, 3) := by decide +kernel
theorem dX14_best_122 : decode cX14_best 122 = .ok (.goto 9, 3) := by decide +kernel
theorem dX14_best_125 : decode cX14_best 125 = .ok (.iload 4, 2) := by decide +kernel
theorem dX14_best_127 : decode cX14_best 127 = .ok (.istore_n 1, 1) := by decide +kernel
theorem dX14_best_128 : decode cX14_best 128 = .ok (.iload 5, 2) := by decide +kernel
theorem dX14_best_130 : decode cX14_best 130 = .ok (.istore_n 2, 1) := by decide +kernel
theorem dX14_best_131 : decode cX14_best 131 = .ok (.iinc 4 1, 3) := by decide +kernel
theorem dX14_best_134 : decode cX14_best 134 = .ok (.goto (-120), 3) := by decide +kernel
theorem dX14_best_137 : decode cX14_best 137 = .ok (.iload_n 1, 1) := by decide +kernel
theorem dX14_best_138 : decode cX14_best 138 = .ok (.ireturn, 1) := by decide +kernel
theorem dX14_bestToSteep_0 : decode cX14_bestToSteep 0 = .ok (.aload_n 0, 1) := by decide +kernel
theorem dX14_bestToSteep_1 : decode cX14_bestToSteep 1 = .ok (.aload_n 0, 1) := by decide +kernel
theorem dX14_bestToSteep_2 : decode cX14_bestToSteep 2 = .ok (.invokevirtual 363, 3) := by decide +kernel
theorem dX14_bestToSteep_5 : decode cX14_bestToSteep 5 = .ok (.invokevirtual 292, 3) := by decide +kernel
theorem dX14_bestToSteep_8 : decode cX14_bestToSteep 8 = .ok (.ireturn, 1) := by decide +kernel
theorem dX14_meanForce_0 : decode cX14_meanForce 0 = .ok (.aload_n 0, 1) := by decide +kernel
theorem dX14_meanForce_1 : decode cX14_meanForce 1 = .ok (.iconst 0, 1) := by decide +kernel
theorem dX14_meanForce_2 : decode cX14_meanForce 2 = .ok (.putfield 57, 3) := by decide +kernel
theorem dX14_meanForce_5 : decode cX14_meanForce 5 = .ok (.iconst 0, 1) := by decide +kernel
theorem dX14_meanForce_6 : decode cX14_meanForce 6 = .ok (.istore_n 1, 1) := by decide +kernel
theorem dX14_meanForce_7 : decode cX14_meanForce 7 = .ok (.iconst 0, 1) := by decide +kernel
theorem dX14_meanForce_8 : decode cX14_meanForce 8 = .ok (.istore_n 2, 1) := by decide +kernel
theorem dX14_meanForce_9 : decode cX14_meanForce 9 = .ok (.iconst 0, 1) := by decide +kernel
theorem dX14_meanForce_10 : decode cX14_meanForce 10 = .ok (.istore_n 3, 1) := by decide +kernel
theorem dX14_meanForce_11 : decode cX14_meanForce 11 = .ok (.iload_n 3, 1) := by decide +kernel
theorem dX14_meanForce_12 : decode cX14_meanForce 12 = .ok (.aload_n 0, 1) := by decide +kernel
theorem dX14_meanForce_13 : decode cX14_meanForce 13 = .ok (.getfield 38, 3) := by decide +kernel
theorem dX14_meanForce_16 : decode cX14_meanForce 16 = .ok (.getfield 168, 3) := by decide +kernel
theorem dX14_meanForce_19 : decode cX14_meanForce 19 = .ok (.if_icmp .ge 43, 3) := by decide +kernel
theorem dX14_meanForce_22 : decode cX14_meanForce 22 = .ok (.iload_n 1, 1) := by decide +kernel
theorem dX14_meanForce_23 : decode cX14_meanForce 23 = .ok (.aload_n 0, 1) := by decide +kernel
theorem dX14_meanForce_24 : decode cX14_meanForce 24 = .ok (.getfield 48, 3) := by decide +kernel
theorem dX14_meanForce_27 : decode cX14_meanForce 27 = .ok (.bipush 8, 2) := by decide +kernel
theorem dX14_meanForce_29 : decode cX14_meanForce 29 = .ok (.iload_n 3, 1) := by decide +kernel
theorem dX14_meanForce_30 : decode cX14_meanForce 30 = .ok (.iadd, 1) := by decide +kernel
theorem dX14_meanForce_31 : decode cX14_meanForce 31 = .ok (.iaload, 1) := by decide +kernel
theorem dX14_meanForce_32 : decode cX14_meanForce 32 = .ok (.aload_n 0, 1) := by decide +kernel
theorem dX14_meanForce_33 : decode cX14_meanForce 33 = .ok (.getfield 38, 3) := by decide +kernel
theorem dX14_meanForce_36 : decode cX14_meanForce 36 = .ok (.getfield 226, 3) := by decide +kernel
theorem dX14_meanForce_39 : decode cX14_meanForce 39 = .ok (.iload_n 3, 1) := by decide +kernel
theorem dX14_meanForce_40 : decode cX14_meanForce 40 = .ok (.iaload, 1) := by decide +kernel
theorem dX14_meanForce_41 : decode cX14_meanForce 41 = .ok (.imul, 1) := by decide +kernel
theorem dX14_meanForce_42 : decode cX14_meanForce 42 = .ok (.iadd, 1) := by decide +kernel
theorem dX14_meanForce_43 : decode cX14_meanForce 43 = .ok (.istore_n 1, 1) := by decide +kernel
theorem dX14_meanForce_44 : decode cX14_meanForce 44 = .ok (.iload_n 2, 1) := by decide +kernel
theorem dX14_meanForce_45 : decode cX14_meanForce 45 = .ok (.aload_n 0, 1) := by decide +kernel
theorem dX14_meanForce_46 : decode cX14_meanForce 46 = .ok (.getfield 48, 3) := by decide +kernel
theorem dX14_meanForce_49 : decode cX14_meanForce 49 = .ok (.bipush 8, 2) := by decide +kernel
theorem dX14_meanForce_51 : decode cX14_meanForce 51 = .ok (.iload_n 3, 1) := by decide +kernel
theorem dX14_meanForce_52 : decode cX14_meanForce 52 = .ok (.iadd, 1) := by decide +kernel
theorem dX14_meanForce_53 : decode cX14_meanForce 53 = .ok (.iaload, 1) := by decide +kernel
theorem dX14_meanForce_54 : decode cX14_meanForce 54 = .ok (.iadd, 1) := by decide +kernel
theorem dX14_meanForce_55 : decode cX14_meanForce 55 = .ok (.istore_n 2, 1) := by decide +kernel
theorem dX14_meanForce_56 : decode cX14_meanForce 56 = .ok (.iinc 3 1, 3) := by decide +kernel
theorem dX14_meanForce_59 : decode cX14_meanForce 59 = .ok (.goto (-48), 3) := by decide +kernel
theorem dX14_meanForce_62 : decode cX14_meanForce 62 = .ok (.iload_n 2, 1) := by decide +kernel
theorem dX14_meanForce_63 : decode cX14_meanForce 63 = .ok (.ifCond .ne 7, 3) := by decide +kernel
theorem dX14_meanForce_66 : decode cX14_meanForce 66 = .ok (.dconst 0, 1) := by decide +kernel
theorem dX14_meanForce_67 : decode cX14_meanForce 67 = .ok (.goto 8, 3) := by decide +kernel
theorem dX14_meanForce_70 : decode cX14_meanForce 70 = .ok (.iload_n 1, 1) := by decide +kernel
theorem dX14_meanForce_71 : decode cX14_meanForce 71 = .ok (.i2d, 1) := by decide +kernel
theorem dX14_meanForce_72 : decode cX14_meanForce 72 = .ok (.iload_n 2, 1) := by decide +kernel
theorem dX14_meanForce_73 : decode cX14_meanForce 73 = .ok (.i2d, 1) := by decide +kernel
theorem dX14_meanForce_74 : decode cX14_meanForce 74 = .ok (.ddiv, 1) := by decide +kernel
theorem dX14_meanForce_75 : decode cX14_meanForce 75 = .ok (.dreturn, 1) := by decide +kernel
theorem dX14_digest_0 : decode cX14_digest 0 = .ok (.bipush 14, 2) := by decide +kernel
theorem dX14_digest_2 : decode cX14_digest 2 = .ok (.newarray .int, 2) := by decide +kernel
theorem dX14_digest_4 : decode cX14_digest 4 = .ok (.dup, 1) := by decide +kernel
theorem dX14_digest_5 : decode cX14_digest 5 = .ok (.iconst 0, 1) := by decide +kernel
theorem dX14_digest_6 : decode cX14_digest 6 = .ok (.aload_n 0, 1) := by decide +kernel
theorem dX14_digest_7 : decode cX14_digest 7 = .ok (.getfield 38, 3) := by decide +kernel
theorem dX14_digest_10 : decode cX14_digest 10 = .ok (.getfield 168, 3) := by decide +kernel
theorem dX14_digest_13 : decode cX14_digest 13 = .ok (.iastore, 1) := by decide +kernel
theorem dX14_digest_14 : decode cX14_digest 14 = .ok (.dup, 1) := by decide +kernel
theorem dX14_digest_15 : decode cX14_digest 15 = .ok (.iconst 1, 1) := by decide +kernel
theorem dX14_digest_16 : decode cX14_digest 16 = .ok (.aload_n 0, 1) := by decide +kernel
theorem dX14_digest_17 : decode cX14_digest 17 = .ok (.getfield 38, 3) := by decide +kernel
theorem dX14_digest_20 : decode cX14_digest 20 = .ok (.getfield 174, 3) := by decide +kernel
theorem dX14_digest_23 : decode cX14_digest 23 = .ok (.iastore, 1) := by decide +kernel
theorem dX14_digest_24 : decode cX14_digest 24 = .ok (.dup, 1) := by decide +kernel
theorem dX14_digest_25 : decode cX14_digest 25 = .ok (.iconst 2, 1) := by decide +kernel
theorem dX14_digest_26 : decode cX14_digest 26 = .ok (.aload_n 0, 1) := by decide +kernel
theorem dX14_digest_27 : decode cX14_digest 27 = .ok (.getfield 48, 3) := by decide +kernel
theorem dX14_digest_30 : decode cX14_digest 30 = .ok (.iconst 0, 1) := by decide +kernel
theorem dX14_digest_31 : decode cX14_digest 31 = .ok (.iaload, 1) := by decide +kernel
theorem dX14_digest_32 : decode cX14_digest 32 = .ok (.iastore, 1) := by decide +kernel
theorem dX14_digest_33 : decode cX14_digest 33 = .ok (.dup, 1) := by decide +kernel
theorem dX14_digest_34 : decode cX14_digest 34 = .ok (.iconst 3, 1) := by decide +kernel
theorem dX14_digest_35 : decode cX14_digest 35 = .ok (.aload_n 0, 1) := by decide +kernel
theorem dX14_digest_36 : decode cX14_digest 36 = .ok (.getfield 48, 3) := by decide +kernel
theorem dX14_digest_39 : decode cX14_digest 39 = .ok (.iconst 1, 1) := by decide +kernel
theorem dX14_digest_40 : decode cX14_digest 40 = .ok (.iaload, 1) := by decide +kernel
theorem dX14_digest_41 : decode cX14_digest 41 = .ok (.iastore, 1) := by decide +kernel
theorem dX14_digest_42 : decode cX14_digest 42 = .ok (.dup, 1) := by decide +kernel
theorem dX14_digest_43 : decode cX14_digest 43 = .ok (.iconst 4, 1) := by decide +kernel
theorem dX14_digest_44 : decode cX14_digest 44 = .ok (.aload_n 0, 1) := by decide +kernel
theorem dX14_digest_45 : decode cX14_digest 45 = .ok (.getfield 48, 3) := by decide +kernel
theorem dX14_digest_48 : decode cX14_digest 48 = .ok (.iconst 2, 1) := by decide +kernel
theorem dX14_digest_49 : decode cX14_digest 49 = .ok (.iaload, 1) := by decide +kernel
theorem dX14_digest_50 : decode cX14_digest 50 = .ok (.iastore, 1) := by decide +kernel
theorem dX14_digest_51 : decode cX14_digest 51 = .ok (.dup, 1) := by decide +kernel
theorem dX14_digest_52 : decode cX14_digest 52 = .ok (.iconst 5, 1) := by decide +kernel
theorem dX14_digest_53 : decode cX14_digest 53 = .ok (.aload_n 0, 1) := by decide +kernel
theorem dX14_digest_54 : decode cX14_digest 54 = .ok (.getfield 48, 3) := by decide +kernel
theorem dX14_digest_57 : decode cX14_digest 57 = .ok (.iconst 3, 1) := by decide +kernel
theorem dX14_digest_58 : decode cX14_digest 58 = .ok (.iaload, 1) := by decide +kernel
theorem dX14_digest_59 : decode cX14_digest 59 = .ok (.iastore, 1) := by decide +kernel
theorem dX14_digest_60 : decode cX14_digest 60 = .ok (.dup, 1) := by decide +kernel
theorem dX14_digest_61 : decode cX14_digest 61 = .ok (.bipush 6, 2) := by decide +kernel
theorem dX14_digest_63 : decode cX14_digest 63 = .ok (.aload_n 0, 1) := by decide +kernel
theorem dX14_digest_64 : decode cX14_digest 64 = .ok (.getfield 48, 3) := by decide +kernel
theorem dX14_digest_67 : decode cX14_digest 67 = .ok (.iconst 4, 1) := by decide +kernel
theorem dX14_digest_68 : decode cX14_digest 68 = .ok (.iaload, 1) := by decide +kernel
theorem dX14_digest_69 : decode cX14_digest 69 = .ok (.iastore, 1) := by decide +kernel
theorem dX14_digest_70 : decode cX14_digest 70 = .ok (.dup, 1) := by decide +kernel
theorem dX14_digest_71 : decode cX14_digest 71 = .ok (.bipush 7, 2) := by decide +kernel
theorem dX14_digest_73 : decode cX14_digest 73 = .ok (.aload_n 0, 1) := by decide +kernel
theorem dX14_digest_74 : decode cX14_digest 74 = .ok (.getfield 48, 3) := by decide +kernel
theorem dX14_digest_77 : decode cX14_digest 77 = .ok (.iconst 5, 1) := by decide +kernel
theorem dX14_digest_78 : decode cX14_digest 78 = .ok (.iaload, 1) := by decide +kernel
theorem dX14_digest_79 : decode cX14_digest 79 = .ok (.iastore, 1) := by decide +kernel
theorem dX14_digest_80 : decode cX14_digest 80 = .ok (.dup, 1) := by decide +kernel
theorem dX14_digest_81 : decode cX14_digest 81 = .ok (.bipush 8, 2) := by decide +kernel
theorem dX14_digest_83 : decode cX14_digest 83 = .ok (.aload_n 0, 1) := by decide +kernel
theorem dX14_digest_84 : decode cX14_digest 84 = .ok (.getfield 48, 3) := by decide +kernel
theorem dX14_digest_87 : decode cX14_digest 87 = .ok (.bipush 7, 2) := by decide +kernel
theorem dX14_digest_89 : decode cX14_digest 89 = .ok (.iaload, 1) := by decide +kernel
theorem dX14_digest_90 : decode cX14_digest 90 = .ok (.iastore, 1) := by decide +kernel
theorem dX14_digest_91 : decode cX14_digest 91 = .ok (.dup, 1) := by decide +kernel
theorem dX14_digest_92 : decode cX14_digest 92 = .ok (.bipush 9, 2) := by decide +kernel
theorem dX14_digest_94 : decode cX14_digest 94 = .ok (.aload_n 0, 1) := by decide +kernel
theorem dX14_digest_95 : decode cX14_digest 95 = .ok (.getfield 48, 3) := by decide +kernel
theorem dX14_digest_98 : decode cX14_digest 98 = .ok (.bipush 6, 2) := by decide +kernel
theorem dX14_digest_100 : decode cX14_digest 100 = .ok (.iaload, 1) := by decide +kernel
theorem dX14_digest_101 : decode cX14_digest 101 = .ok (.iastore, 1) := by decide +kernel
theorem dX14_digest_102 : decode cX14_digest 102 = .ok (.dup, 1) := by decide +kernel
theorem dX14_digest_103 : decode cX14_digest 103 = .ok (.bipush 10, 2) := by decide +kernel
theorem dX14_digest_105 : decode cX14_digest 105 = .ok (.aload_n 0, 1) := by decide +kernel
theorem dX14_digest_106 : decode cX14_digest 106 = .ok (.bipush 28, 2) := by decide +kernel
theorem dX14_digest_108 : decode cX14_digest 108 = .ok (.invokevirtual 342, 3) := by decide +kernel
theorem dX14_digest_111 : decode cX14_digest 111 = .ok (.iastore, 1) := by decide +kernel
theorem dX14_digest_112 : decode cX14_digest 112 = .ok (.dup, 1) := by decide +kernel
theorem dX14_digest_113 : decode cX14_digest 113 = .ok (.bipush 11, 2) := by decide +kernel
theorem dX14_digest_115 : decode cX14_digest 115 = .ok (.aload_n 0, 1) := by decide +kernel
theorem dX14_digest_116 : decode cX14_digest 116 = .ok (.bipush 38, 2) := by decide +kernel
theorem dX14_digest_118 : decode cX14_digest 118 = .ok (.invokevirtual 342, 3) := by decide +kernel
theorem dX14_digest_121 : decode cX14_digest 121 = .ok (.iastore, 1) := by decide +kernel
theorem dX14_digest_122 : decode cX14_digest 122 = .ok (.dup, 1) := by decide +kernel
theorem dX14_digest_123 : decode cX14_digest 123 = .ok (.bipush 12, 2) := by decide +kernel
theorem dX14_digest_125 : decode cX14_digest 125 = .ok (.aload_n 0, 1) := by decide +kernel
theorem dX14_digest_126 : decode cX14_digest 126 = .ok (.bipush 48, 2) := by decide +kernel
theorem dX14_digest_128 : decode cX14_digest 128 = .ok (.invokevirtual 342, 3) := by decide +kernel
theorem dX14_digest_131 : decode cX14_digest 131 = .ok (.iastore, 1) := by decide +kernel
theorem dX14_digest_132 : decode cX14_digest 132 = .ok (.dup, 1) := by decide +kernel
theorem dX14_digest_133 : decode cX14_digest 133 = .ok (.bipush 13, 2) := by decide +kernel
theorem dX14_digest_135 : decode cX14_digest 135 = .ok (.aload_n 0, 1) := by decide +kernel
theorem dX14_digest_136 : decode cX14_digest 136 = .ok (.invokevirtual 363, 3) := by decide +kernel
theorem dX14_digest_139 : decode cX14_digest 139 = .ok (.iastore, 1) := by decide +kernel
theorem dX14_digest_140 : decode cX14_digest 140 = .ok (.astore_n 1, 1) := by decide +kernel
theorem dX14_digest_141 : decode cX14_digest 141 = .ok (.ldc2_w 366, 3) := by decide +kernel
theorem dX14_digest_144 : decode cX14_digest 144 = .ok (.lstore_n 2, 1) := by decide +kernel
theorem dX14_digest_145 : decode cX14_digest 145 = .ok (.aload_n 1, 1) := by decide +kernel
theorem dX14_digest_146 : decode cX14_digest 146 = .ok (.astore 4, 2) := by decide +kernel
theorem dX14_digest_148 : decode cX14_digest 148 = .ok (.aload 4, 2) := by decide +kernel
theorem dX14_digest_150 : decode cX14_digest 150 = .ok (.arraylength, 1) := by decide +kernel
theorem dX14_digest_151 : decode cX14_digest 151 = .ok (.istore 5, 2) := by decide +kernel
theorem dX14_digest_153 : decode cX14_digest 153 = .ok (.iconst 0, 1) := by decide +kernel
theorem dX14_digest_154 : decode cX14_digest 154 = .ok (.istore 6, 2) := by decide +kernel
theorem dX14_digest_156 : decode cX14_digest 156 = .ok (.iload 6, 2) := by decide +kernel
theorem dX14_digest_158 : decode cX14_digest 158 = .ok (.iload 5, 2) := by decide +kernel
theorem dX14_digest_160 : decode cX14_digest 160 = .ok (.if_icmp .ge 26, 3) := by decide +kernel
theorem dX14_digest_163 : decode cX14_digest 163 = .ok (.aload 4, 2) := by decide +kernel
theorem dX14_digest_165 : decode cX14_digest 165 = .ok (.iload 6, 2) := by decide +kernel
theorem dX14_digest_167 : decode cX14_digest 167 = .ok (.iaload, 1) := by decide +kernel
theorem dX14_digest_168 : decode cX14_digest 168 = .ok (.istore 7, 2) := by decide +kernel
theorem dX14_digest_170 : decode cX14_digest 170 = .ok (.lload_n 2, 1) := by decide +kernel
theorem dX14_digest_171 : decode cX14_digest 171 = .ok (.ldc2_w 368, 3) := by decide +kernel
theorem dX14_digest_174 : decode cX14_digest 174 = .ok (.lmul, 1) := by decide +kernel
theorem dX14_digest_175 : decode cX14_digest 175 = .ok (.iload 7, 2) := by decide +kernel
theorem dX14_digest_177 : decode cX14_digest 177 = .ok (.i2l, 1) := by decide +kernel
theorem dX14_digest_178 : decode cX14_digest 178 = .ok (.ladd, 1) := by decide +kernel
theorem dX14_digest_179 : decode cX14_digest 179 = .ok (.lstore_n 2, 1) := by decide +kernel
theorem dX14_digest_180 : decode cX14_digest 180 = .ok (.iinc 6 1, 3) := by decide +kernel
theorem dX14_digest_183 : decode cX14_digest 183 = .ok (.goto (-27), 3) := by decide +kernel
theorem dX14_digest_186 : decode cX14_digest 186 = .ok (.iconst 0, 1) := by decide +kernel
theorem dX14_digest_187 : decode cX14_digest 187 = .ok (.istore 4, 2) := by decide +kernel
theorem dX14_digest_189 : decode cX14_digest 189 = .ok (.iload 4, 2) := by decide +kernel
theorem dX14_digest_191 : decode cX14_digest 191 = .ok (.aload_n 0, 1) := by decide +kernel
theorem dX14_digest_192 : decode cX14_digest 192 = .ok (.getfield 38, 3) := by decide +kernel
theorem dX14_digest_195 : decode cX14_digest 195 = .ok (.getfield 168, 3) := by decide +kernel
theorem dX14_digest_198 : decode cX14_digest 198 = .ok (.if_icmp .ge 43, 3) := by decide +kernel
theorem dX14_digest_201 : decode cX14_digest 201 = .ok (.lload_n 2, 1) := by decide +kernel
theorem dX14_digest_202 : decode cX14_digest 202 = .ok (.ldc2_w 368, 3) := by decide +kernel
theorem dX14_digest_205 : decode cX14_digest 205 = .ok (.lmul, 1) := by decide +kernel
theorem dX14_digest_206 : decode cX14_digest 206 = .ok (.aload_n 0, 1) := by decide +kernel
theorem dX14_digest_207 : decode cX14_digest 207 = .ok (.getfield 48, 3) := by decide +kernel
theorem dX14_digest_210 : decode cX14_digest 210 = .ok (.bipush 8, 2) := by decide +kernel
theorem dX14_digest_212 : decode cX14_digest 212 = .ok (.iload 4, 2) := by decide +kernel
theorem dX14_digest_214 : decode cX14_digest 214 = .ok (.iadd, 1) := by decide +kernel
theorem dX14_digest_215 : decode cX14_digest 215 = .ok (.iaload, 1) := by decide +kernel
theorem dX14_digest_216 : decode cX14_digest 216 = .ok (.i2l, 1) := by decide +kernel
theorem dX14_digest_217 : decode cX14_digest 217 = .ok (.ladd, 1) := by decide +kernel
theorem dX14_digest_218 : decode cX14_digest 218 = .ok (.ldc2_w 368, 3) := by decide +kernel
theorem dX14_digest_221 : decode cX14_digest 221 = .ok (.lmul, 1) := by decide +kernel
theorem dX14_digest_222 : decode cX14_digest 222 = .ok (.aload_n 0, 1) := by decide +kernel
theorem dX14_digest_223 : decode cX14_digest 223 = .ok (.getfield 48, 3) := by decide +kernel
theorem dX14_digest_226 : decode cX14_digest 226 = .ok (.bipush 18, 2) := by decide +kernel
theorem dX14_digest_228 : decode cX14_digest 228 = .ok (.iload 4, 2) := by decide +kernel
theorem dX14_digest_230 : decode cX14_digest 230 = .ok (.iadd, 1) := by decide +kernel
theorem dX14_digest_231 : decode cX14_digest 231 = .ok (.iaload, 1) := by decide +kernel
theorem dX14_digest_232 : decode cX14_digest 232 = .ok (.i2l, 1) := by decide +kernel
theorem dX14_digest_233 : decode cX14_digest 233 = .ok (.ladd, 1) := by decide +kernel
theorem dX14_digest_234 : decode cX14_digest 234 = .ok (.lstore_n 2, 1) := by decide +kernel
theorem dX14_digest_235 : decode cX14_digest 235 = .ok (.iinc 4 1, 3) := by decide +kernel
theorem dX14_digest_238 : decode cX14_digest 238 = .ok (.goto (-49), 3) := by decide +kernel
theorem dX14_digest_241 : decode cX14_digest 241 = .ok (.iconst 0, 1) := by decide +kernel
theorem dX14_digest_242 : decode cX14_digest 242 = .ok (.istore 4, 2) := by decide +kernel
theorem dX14_digest_244 : decode cX14_digest 244 = .ok (.iload 4, 2) := by decide +kernel
theorem dX14_digest_246 : decode cX14_digest 246 = .ok (.aload_n 0, 1) := by decide +kernel
theorem dX14_digest_247 : decode cX14_digest 247 = .ok (.getfield 38, 3) := by decide +kernel
theorem dX14_digest_250 : decode cX14_digest 250 = .ok (.getfield 174, 3) := by decide +kernel
theorem dX14_digest_253 : decode cX14_digest 253 = .ok (.if_icmp .ge 79, 3) := by decide +kernel
theorem dX14_digest_256 : decode cX14_digest 256 = .ok (.lload_n 2, 1) := by decide +kernel
theorem dX14_digest_257 : decode cX14_digest 257 = .ok (.ldc2_w 368, 3) := by decide +kernel
theorem dX14_digest_260 : decode cX14_digest 260 = .ok (.lmul, 1) := by decide +kernel
theorem dX14_digest_261 : decode cX14_digest 261 = .ok (.aload_n 0, 1) := by decide +kernel
theorem dX14_digest_262 : decode cX14_digest 262 = .ok (.getfield 48, 3) := by decide +kernel
theorem dX14_digest_265 : decode cX14_digest 265 = .ok (.bipush 28, 2) := by decide +kernel
theorem dX14_digest_267 : decode cX14_digest 267 = .ok (.iload 4, 2) := by decide +kernel
theorem dX14_digest_269 : decode cX14_digest 269 = .ok (.iadd, 1) := by decide +kernel
theorem dX14_digest_270 : decode cX14_digest 270 = .ok (.iaload, 1) := by decide +kernel
theorem dX14_digest_271 : decode cX14_digest 271 = .ok (.i2l, 1) := by decide +kernel
theorem dX14_digest_272 : decode cX14_digest 272 = .ok (.ladd, 1) := by decide +kernel
theorem dX14_digest_273 : decode cX14_digest 273 = .ok (.ldc2_w 368, 3) := by decide +kernel
theorem dX14_digest_276 : decode cX14_digest 276 = .ok (.lmul, 1) := by decide +kernel
theorem dX14_digest_277 : decode cX14_digest 277 = .ok (.aload_n 0, 1) := by decide +kernel
theorem dX14_digest_278 : decode cX14_digest 278 = .ok (.iload 4, 2) := by decide +kernel
theorem dX14_digest_280 : decode cX14_digest 280 = .ok (.invokevirtual 295, 3) := by decide +kernel
theorem dX14_digest_283 : decode cX14_digest 283 = .ok (.ifCond .eq 7, 3) := by decide +kernel
theorem dX14_digest_286 : decode cX14_digest 286 = .ok (.iconst 1, 1) := by decide +kernel
theorem dX14_digest_287 : decode cX14_digest 287 = .ok (.goto 4, 3) := by decide +kernel
theorem dX14_digest_290 : decode cX14_digest 290 = .ok (.iconst 0, 1) := by decide +kernel
theorem dX14_digest_291 : decode cX14_digest 291 = .ok (.i2l, 1) := by decide +kernel
theorem dX14_digest_292 : decode cX14_digest 292 = .ok (.ladd, 1) := by decide +kernel
theorem dX14_digest_293 : decode cX14_digest 293 = .ok (.ldc2_w 368, 3) := by decide +kernel
theorem dX14_digest_296 : decode cX14_digest 296 = .ok (.lmul, 1) := by decide +kernel
theorem dX14_digest_297 : decode cX14_digest 297 = .ok (.aload_n 0, 1) := by decide +kernel
theorem dX14_digest_298 : decode cX14_digest 298 = .ok (.getfield 48, 3) := by decide +kernel
theorem dX14_digest_301 : decode cX14_digest 301 = .ok (.bipush 38, 2) := by decide +kernel
theorem dX14_digest_303 : decode cX14_digest 303 = .ok (.iload 4, 2) := by decide +kernel
theorem dX14_digest_305 : decode cX14_digest 305 = .ok (.iadd, 1) := by decide +kernel
theorem dX14_digest_306 : decode cX14_digest 306 = .ok (.iaload, 1) := by decide +kernel
theorem dX14_digest_307 : decode cX14_digest 307 = .ok (.i2l, 1) := by decide +kernel
theorem dX14_digest_308 : decode cX14_digest 308 = .ok (.ladd, 1) := by decide +kernel
theorem dX14_digest_309 : decode cX14_digest 309 = .ok (.ldc2_w 368, 3) := by decide +kernel
theorem dX14_digest_312 : decode cX14_digest 312 = .ok (.lmul, 1) := by decide +kernel
theorem dX14_digest_313 : decode cX14_digest 313 = .ok (.aload_n 0, 1) := by decide +kernel
theorem dX14_digest_314 : decode cX14_digest 314 = .ok (.getfield 48, 3) := by decide +kernel
theorem dX14_digest_317 : decode cX14_digest 317 = .ok (.bipush 48, 2) := by decide +kernel
