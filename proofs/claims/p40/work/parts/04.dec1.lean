theorem dX8_serveGuest_28 : decode cX8_serveGuest 28 = .ok (.getfield 39, 3) := by decide +kernel
theorem dX8_serveGuest_31 : decode cX8_serveGuest 31 = .ok (.iload_n 1, 1) := by decide +kernel
theorem dX8_serveGuest_32 : decode cX8_serveGuest 32 = .ok (.iconst 1, 1) := by decide +kernel
theorem dX8_serveGuest_33 : decode cX8_serveGuest 33 = .ok (.bastore, 1) := by decide +kernel
theorem dX8_serveGuest_34 : decode cX8_serveGuest 34 = .ok (.aload_n 0, 1) := by decide +kernel
theorem dX8_serveGuest_35 : decode cX8_serveGuest 35 = .ok (.iconst 0, 1) := by decide +kernel
theorem dX8_serveGuest_36 : decode cX8_serveGuest 36 = .ok (.aload_n 0, 1) := by decide +kernel
theorem dX8_serveGuest_37 : decode cX8_serveGuest 37 = .ok (.getfield 48, 3) := by decide +kernel
theorem dX8_serveGuest_40 : decode cX8_serveGuest 40 = .ok (.iconst 3, 1) := by decide +kernel
theorem dX8_serveGuest_41 : decode cX8_serveGuest 41 = .ok (.isub, 1) := by decide +kernel
theorem dX8_serveGuest_42 : decode cX8_serveGuest 42 = .ok (.invokestatic 132, 3) := by decide +kernel
theorem dX8_serveGuest_45 : decode cX8_serveGuest 45 = .ok (.putfield 48, 3) := by decide +kernel
theorem dX8_serveGuest_48 : decode cX8_serveGuest 48 = .ok (.iconst 1, 1) := by decide +kernel
theorem dX8_serveGuest_49 : decode cX8_serveGuest 49 = .ok (.ireturn, 1) := by decide +kernel
theorem dX8_passHour_0 : decode cX8_passHour 0 = .ok (.iconst 0, 1) := by decide +kernel
theorem dX8_passHour_1 : decode cX8_passHour 1 = .ok (.istore_n 1, 1) := by decide +kernel
theorem dX8_passHour_2 : decode cX8_passHour 2 = .ok (.iload_n 1, 1) := by decide +kernel
theorem dX8_passHour_3 : decode cX8_passHour 3 = .ok (.aload_n 0, 1) := by decide +kernel
theorem dX8_passHour_4 : decode cX8_passHour 4 = .ok (.getfield 21, 3) := by decide +kernel
theorem dX8_passHour_7 : decode cX8_passHour 7 = .ok (.getfield 135, 3) := by decide +kernel
theorem dX8_passHour_10 : decode cX8_passHour 10 = .ok (.getfield 139, 3) := by decide +kernel
theorem dX8_passHour_13 : decode cX8_passHour 13 = .ok (.if_icmp .ge 56, 3) := by decide +kernel
theorem dX8_passHour_16 : decode cX8_passHour 16 = .ok (.aload_n 0, 1) := by decide +kernel
theorem dX8_passHour_17 : decode cX8_passHour 17 = .ok (.getfield 12, 3) := by decide +kernel
theorem dX8_passHour_20 : decode cX8_passHour 20 = .ok (.aload_n 0, 1) := by decide +kernel
theorem dX8_passHour_21 : decode cX8_passHour 21 = .ok (.getfield 21, 3) := by decide +kernel
theorem dX8_passHour_24 : decode cX8_passHour 24 = .ok (.getfield 135, 3) := by decide +kernel
theorem dX8_passHour_27 : decode cX8_passHour 27 = .ok (.iload_n 1, 1) := by decide +kernel
theorem dX8_passHour_28 : decode cX8_passHour 28 = .ok (.aload_n 0, 1) := by decide +kernel
theorem dX8_passHour_29 : decode cX8_passHour 29 = .ok (.invokevirtual 142, 3) := by decide +kernel
theorem dX8_passHour_32 : decode cX8_passHour 32 = .ok (.ifCond .eq 31, 3) := by decide +kernel
theorem dX8_passHour_35 : decode cX8_passHour 35 = .ok (.aload_n 0, 1) := by decide +kernel
theorem dX8_passHour_36 : decode cX8_passHour 36 = .ok (.aload_n 0, 1) := by decide +kernel
theorem dX8_passHour_37 : decode cX8_passHour 37 = .ok (.getfield 21, 3) := by decide +kernel
theorem dX8_passHour_40 : decode cX8_passHour 40 = .ok (.getfield 135, 3) := by decide +kernel
theorem dX8_passHour_43 : decode cX8_passHour 43 = .ok (.getfield 146, 3) := by decide +kernel
theorem dX8_passHour_46 : decode cX8_passHour 46 = .ok (.iload_n 1, 1) := by decide +kernel
theorem dX8_passHour_47 : decode cX8_passHour 47 = .ok (.aaload, 1) := by decide +kernel
theorem dX8_passHour_48 : decode cX8_passHour 48 = .ok (.aload_n 0, 1) := by decide +kernel
theorem dX8_passHour_49 : decode cX8_passHour 49 = .ok (.getfield 21, 3) := by decide +kernel
theorem dX8_passHour_52 : decode cX8_passHour 52 = .ok (.getfield 135, 3) := by decide +kernel
theorem dX8_passHour_55 : decode cX8_passHour 55 = .ok (.getfield 150, 3) := by decide +kernel
theorem dX8_passHour_58 : decode cX8_passHour 58 = .ok (.iload_n 1, 1) := by decide +kernel
theorem dX8_passHour_59 : decode cX8_passHour 59 = .ok (.iaload, 1) := by decide +kernel
theorem dX8_passHour_60 : decode cX8_passHour 60 = .ok (.invokevirtual 153, 3) := by decide +kernel
theorem dX8_passHour_63 : decode cX8_passHour 63 = .ok (.iinc 1 1, 3) := by decide +kernel
theorem dX8_passHour_66 : decode cX8_passHour 66 = .ok (.goto (-64), 3) := by decide +kernel
theorem dX8_passHour_69 : decode cX8_passHour 69 = .ok (.aload_n 0, 1) := by decide +kernel
theorem dX8_passHour_70 : decode cX8_passHour 70 = .ok (.invokevirtual 157, 3) := by decide +kernel
theorem dX8_passHour_73 : decode cX8_passHour 73 = .ok (.aload_n 0, 1) := by decide +kernel
theorem dX8_passHour_74 : decode cX8_passHour 74 = .ok (.getfield 51, 3) := by decide +kernel
theorem dX8_passHour_77 : decode cX8_passHour 77 = .ok (.bipush 12, 2) := by decide +kernel
theorem dX8_passHour_79 : decode cX8_passHour 79 = .ok (.if_icmp .lt 7, 3) := by decide +kernel
theorem dX8_passHour_82 : decode cX8_passHour 82 = .ok (.aload_n 0, 1) := by decide +kernel
theorem dX8_passHour_83 : decode cX8_passHour 83 = .ok (.invokevirtual 160, 3) := by decide +kernel
theorem dX8_passHour_86 : decode cX8_passHour 86 = .ok (.aload_n 0, 1) := by decide +kernel
theorem dX8_passHour_87 : decode cX8_passHour 87 = .ok (.dup, 1) := by decide +kernel
theorem dX8_passHour_88 : decode cX8_passHour 88 = .ok (.getfield 45, 3) := by decide +kernel
theorem dX8_passHour_91 : decode cX8_passHour 91 = .ok (.iconst 1, 1) := by decide +kernel
theorem dX8_passHour_92 : decode cX8_passHour 92 = .ok (.iadd, 1) := by decide +kernel
theorem dX8_passHour_93 : decode cX8_passHour 93 = .ok (.putfield 45, 3) := by decide +kernel
theorem dX8_passHour_96 : decode cX8_passHour 96 = .ok (.return_, 1) := by decide +kernel
theorem dX8_follow_0 : decode cX8_follow 0 = .ok (.getstatic 118, 3) := by decide +kernel
theorem dX8_follow_3 : decode cX8_follow 3 = .ok (.aload_n 1, 1) := by decide +kernel
theorem dX8_follow_4 : decode cX8_follow 4 = .ok (.invokevirtual 123, 3) := by decide +kernel
theorem dX8_follow_7 : decode cX8_follow 7 = .ok (.iaload, 1) := by decide +kernel
theorem dX8_follow_8 : decode cX8_follow 8 = .ok (.lookupswitch 78 #[(21, 44), (23, 69), (35, 53), (36, 61)], 44) := by decide +kernel
theorem dX8_follow_52 : decode cX8_follow 52 = .ok (.aload_n 0, 1) := by decide +kernel
theorem dX8_follow_53 : decode cX8_follow 53 = .ok (.iload_n 2, 1) := by decide +kernel
theorem dX8_follow_54 : decode cX8_follow 54 = .ok (.invokevirtual 163, 3) := by decide +kernel
theorem dX8_follow_57 : decode cX8_follow 57 = .ok (.pop, 1) := by decide +kernel
theorem dX8_follow_58 : decode cX8_follow 58 = .ok (.goto 28, 3) := by decide +kernel
theorem dX8_follow_61 : decode cX8_follow 61 = .ok (.aload_n 0, 1) := by decide +kernel
theorem dX8_follow_62 : decode cX8_follow 62 = .ok (.invokevirtual 166, 3) := by decide +kernel
theorem dX8_follow_65 : decode cX8_follow 65 = .ok (.pop, 1) := by decide +kernel
theorem dX8_follow_66 : decode cX8_follow 66 = .ok (.goto 20, 3) := by decide +kernel
theorem dX8_follow_69 : decode cX8_follow 69 = .ok (.aload_n 0, 1) := by decide +kernel
theorem dX8_follow_70 : decode cX8_follow 70 = .ok (.invokevirtual 170, 3) := by decide +kernel
theorem dX8_follow_73 : decode cX8_follow 73 = .ok (.pop, 1) := by decide +kernel
theorem dX8_follow_74 : decode cX8_follow 74 = .ok (.goto 12, 3) := by decide +kernel
theorem dX8_follow_77 : decode cX8_follow 77 = .ok (.aload_n 0, 1) := by decide +kernel
theorem dX8_follow_78 : decode cX8_follow 78 = .ok (.iload_n 2, 1) := by decide +kernel
theorem dX8_follow_79 : decode cX8_follow 79 = .ok (.invokevirtual 173, 3) := by decide +kernel
theorem dX8_follow_82 : decode cX8_follow 82 = .ok (.pop, 1) := by decide +kernel
theorem dX8_follow_83 : decode cX8_follow 83 = .ok (.goto 3, 3) := by decide +kernel
theorem dX8_follow_86 : decode cX8_follow 86 = .ok (.return_, 1) := by decide +kernel
theorem dX8_blow_0 : decode cX8_blow 0 = .ok (.iconst 0, 1) := by decide +kernel
theorem dX8_blow_1 : decode cX8_blow 1 = .ok (.istore_n 1, 1) := by decide +kernel
theorem dX8_blow_2 : decode cX8_blow 2 = .ok (.iconst 0, 1) := by decide +kernel
theorem dX8_blow_3 : decode cX8_blow 3 = .ok (.istore_n 2, 1) := by decide +kernel
theorem dX8_blow_4 : decode cX8_blow 4 = .ok (.iconst 0, 1) := by decide +kernel
theorem dX8_blow_5 : decode cX8_blow 5 = .ok (.istore_n 3, 1) := by decide +kernel
theorem dX8_blow_6 : decode cX8_blow 6 = .ok (.iload_n 3, 1) := by decide +kernel
theorem dX8_blow_7 : decode cX8_blow 7 = .ok (.aload_n 0, 1) := by decide +kernel
theorem dX8_blow_8 : decode cX8_blow 8 = .ok (.getfield 21, 3) := by decide +kernel
theorem dX8_blow_11 : decode cX8_blow 11 = .ok (.getfield 60, 3) := by decide +kernel
theorem dX8_blow_14 : decode cX8_blow 14 = .ok (.getfield 176, 3) := by decide +kernel
theorem dX8_blow_17 : decode cX8_blow 17 = .ok (.if_icmp .ge 73, 3) := by decide +kernel
theorem dX8_blow_20 : decode cX8_blow 20 = .ok (.aload_n 0, 1) := by decide +kernel
theorem dX8_blow_21 : decode cX8_blow 21 = .ok (.iload_n 3, 1) := by decide +kernel
theorem dX8_blow_22 : decode cX8_blow 22 = .ok (.invokevirtual 129, 3) := by decide +kernel
theorem dX8_blow_25 : decode cX8_blow 25 = .ok (.ifCond .eq 36, 3) := by decide +kernel
theorem dX8_blow_28 : decode cX8_blow 28 = .ok (.aload_n 0, 1) := by decide +kernel
theorem dX8_blow_29 : decode cX8_blow 29 = .ok (.getfield 21, 3) := by decide +kernel
theorem dX8_blow_32 : decode cX8_blow 32 = .ok (.getfield 60, 3) := by decide +kernel
theorem dX8_blow_35 : decode cX8_blow 35 = .ok (.getfield 177, 3) := by decide +kernel
theorem dX8_blow_38 : decode cX8_blow 38 = .ok (.iload_n 3, 1) := by decide +kernel
theorem dX8_blow_39 : decode cX8_blow 39 = .ok (.baload, 1) := by decide +kernel
theorem dX8_blow_40 : decode cX8_blow 40 = .ok (.ifCond .eq 21, 3) := by decide +kernel
theorem dX8_blow_43 : decode cX8_blow 43 = .ok (.iload_n 1, 1) := by decide +kernel
theorem dX8_blow_44 : decode cX8_blow 44 = .ok (.aload_n 0, 1) := by decide +kernel
theorem dX8_blow_45 : decode cX8_blow 45 = .ok (.getfield 21, 3) := by decide +kernel
theorem dX8_blow_48 : decode cX8_blow 48 = .ok (.getfield 60, 3) := by decide +kernel
theorem dX8_blow_51 : decode cX8_blow 51 = .ok (.getfield 109, 3) := by decide +kernel
theorem dX8_blow_54 : decode cX8_blow 54 = .ok (.iload_n 3, 1) := by decide +kernel
theorem dX8_blow_55 : decode cX8_blow 55 = .ok (.iaload, 1) := by decide +kernel
theorem dX8_blow_56 : decode cX8_blow 56 = .ok (.iadd, 1) := by decide +kernel
theorem dX8_blow_57 : decode cX8_blow 57 = .ok (.istore_n 1, 1) := by decide +kernel
theorem dX8_blow_58 : decode cX8_blow 58 = .ok (.goto 26, 3) := by decide +kernel
theorem dX8_blow_61 : decode cX8_blow 61 = .ok (.aload_n 0, 1) := by decide +kernel
theorem dX8_blow_62 : decode cX8_blow 62 = .ok (.iload_n 3, 1) := by decide +kernel
theorem dX8_blow_63 : decode cX8_blow 63 = .ok (.invokevirtual 129, 3) := by decide +kernel
theorem dX8_blow_66 : decode cX8_blow 66 = .ok (.ifCond .eq 18, 3) := by decide +kernel
theorem dX8_blow_69 : decode cX8_blow 69 = .ok (.iload_n 2, 1) := by decide +kernel
theorem dX8_blow_70 : decode cX8_blow 70 = .ok (.aload_n 0, 1) := by decide +kernel
theorem dX8_blow_71 : decode cX8_blow 71 = .ok (.getfield 21, 3) := by decide +kernel
theorem dX8_blow_74 : decode cX8_blow 74 = .ok (.getfield 60, 3) := by decide +kernel
theorem dX8_blow_77 : decode cX8_blow 77 = .ok (.getfield 109, 3) := by decide +kernel
theorem dX8_blow_80 : decode cX8_blow 80 = .ok (.iload_n 3, 1) := by decide +kernel
theorem dX8_blow_81 : decode cX8_blow 81 = .ok (.iaload, 1) := by decide +kernel
theorem dX8_blow_82 : decode cX8_blow 82 = .ok (.iadd, 1) := by decide +kernel
theorem dX8_blow_83 : decode cX8_blow 83 = .ok (.istore_n 2, 1) := by decide +kernel
theorem dX8_blow_84 : decode cX8_blow 84 = .ok (.iinc 3 1, 3) := by decide +kernel
theorem dX8_blow_87 : decode cX8_blow 87 = .ok (.goto (-81), 3) := by decide +kernel
theorem dX8_blow_90 : decode cX8_blow 90 = .ok (.iload_n 1, 1) := by decide +kernel
theorem dX8_blow_91 : decode cX8_blow 91 = .ok (.iload_n 2, 1) := by decide +kernel
theorem dX8_blow_92 : decode cX8_blow 92 = .ok (.iadd, 1) := by decide +kernel
theorem dX8_blow_93 : decode cX8_blow 93 = .ok (.ifCond .le 27, 3) := by decide +kernel
theorem dX8_blow_96 : decode cX8_blow 96 = .ok (.aload_n 0, 1) := by decide +kernel
theorem dX8_blow_97 : decode cX8_blow 97 = .ok (.iconst 0, 1) := by decide +kernel
theorem dX8_blow_98 : decode cX8_blow 98 = .ok (.bipush 40, 2) := by decide +kernel
theorem dX8_blow_100 : decode cX8_blow 100 = .ok (.aload_n 0, 1) := by decide +kernel
theorem dX8_blow_101 : decode cX8_blow 101 = .ok (.getfield 25, 3) := by decide +kernel
theorem dX8_blow_104 : decode cX8_blow 104 = .ok (.iload_n 1, 1) := by decide +kernel
theorem dX8_blow_105 : decode cX8_blow 105 = .ok (.iadd, 1) := by decide +kernel
theorem dX8_blow_106 : decode cX8_blow 106 = .ok (.iload_n 2, 1) := by decide +kernel
theorem dX8_blow_107 : decode cX8_blow 107 = .ok (.isub, 1) := by decide +kernel
theorem dX8_blow_108 : decode cX8_blow 108 = .ok (.invokestatic 112, 3) := by decide +kernel
theorem dX8_blow_111 : decode cX8_blow 111 = .ok (.invokestatic 132, 3) := by decide +kernel
theorem dX8_blow_114 : decode cX8_blow 114 = .ok (.putfield 25, 3) := by decide +kernel
theorem dX8_blow_117 : decode cX8_blow 117 = .ok (.goto 21, 3) := by decide +kernel
theorem dX8_blow_120 : decode cX8_blow 120 = .ok (.aload_n 0, 1) := by decide +kernel
theorem dX8_blow_121 : decode cX8_blow 121 = .ok (.dup, 1) := by decide +kernel
theorem dX8_blow_122 : decode cX8_blow 122 = .ok (.getfield 25, 3) := by decide +kernel
theorem dX8_blow_125 : decode cX8_blow 125 = .ok (.bipush 20, 2) := by decide +kernel
theorem dX8_blow_127 : decode cX8_blow 127 = .ok (.aload_n 0, 1) := by decide +kernel
theorem dX8_blow_128 : decode cX8_blow 128 = .ok (.getfield 25, 3) := by decide +kernel
theorem dX8_blow_131 : decode cX8_blow 131 = .ok (.invokestatic 180, 3) := by decide +kernel
theorem dX8_blow_134 : decode cX8_blow 134 = .ok (.iadd, 1) := by decide +kernel
theorem dX8_blow_135 : decode cX8_blow 135 = .ok (.putfield 25, 3) := by decide +kernel
theorem dX8_blow_138 : decode cX8_blow 138 = .ok (.aload_n 0, 1) := by decide +kernel
theorem dX8_blow_139 : decode cX8_blow 139 = .ok (.bipush 30, 2) := by decide +kernel
theorem dX8_blow_141 : decode cX8_blow 141 = .ok (.aload_n 0, 1) := by decide +kernel
theorem dX8_blow_142 : decode cX8_blow 142 = .ok (.getfield 51, 3) := by decide +kernel
theorem dX8_blow_145 : decode cX8_blow 145 = .ok (.iload_n 1, 1) := by decide +kernel
theorem dX8_blow_146 : decode cX8_blow 146 = .ok (.iload_n 2, 1) := by decide +kernel
theorem dX8_blow_147 : decode cX8_blow 147 = .ok (.invokestatic 112, 3) := by decide +kernel
theorem dX8_blow_150 : decode cX8_blow 150 = .ok (.iadd, 1) := by decide +kernel
theorem dX8_blow_151 : decode cX8_blow 151 = .ok (.invokestatic 112, 3) := by decide +kernel
theorem dX8_blow_154 : decode cX8_blow 154 = .ok (.putfield 51, 3) := by decide +kernel
theorem dX8_blow_157 : decode cX8_blow 157 = .ok (.return_, 1) := by decide +kernel
theorem dX8_storm_0 : decode cX8_storm 0 = .ok (.iconst 0, 1) := by decide +kernel
theorem dX8_storm_1 : decode cX8_storm 1 = .ok (.istore_n 1, 1) := by decide +kernel
theorem dX8_storm_2 : decode cX8_storm 2 = .ok (.iload_n 1, 1) := by decide +kernel
theorem dX8_storm_3 : decode cX8_storm 3 = .ok (.aload_n 0, 1) := by decide +kernel
theorem dX8_storm_4 : decode cX8_storm 4 = .ok (.getfield 21, 3) := by decide +kernel
theorem dX8_storm_7 : decode cX8_storm 7 = .ok (.getfield 77, 3) := by decide +kernel
theorem dX8_storm_10 : decode cX8_storm 10 = .ok (.getfield 98, 3) := by decide +kernel
theorem dX8_storm_13 : decode cX8_storm 13 = .ok (.if_icmp .ge 43, 3) := by decide +kernel
theorem dX8_storm_16 : decode cX8_storm 16 = .ok (.aload_n 0, 1) := by decide +kernel
theorem dX8_storm_17 : decode cX8_storm 17 = .ok (.iload_n 1, 1) := by decide +kernel
theorem dX8_storm_18 : decode cX8_storm 18 = .ok (.invokevirtual 85, 3) := by decide +kernel
theorem dX8_storm_21 : decode cX8_storm 21 = .ok (.ifCond .eq 29, 3) := by decide +kernel
theorem dX8_storm_24 : decode cX8_storm 24 = .ok (.aload_n 0, 1) := by decide +kernel
theorem dX8_storm_25 : decode cX8_storm 25 = .ok (.getfield 21, 3) := by decide +kernel
theorem dX8_storm_28 : decode cX8_storm 28 = .ok (.getfield 77, 3) := by decide +kernel
theorem dX8_storm_31 : decode cX8_storm 31 = .ok (.getfield 185, 3) := by decide +kernel
theorem dX8_storm_34 : decode cX8_storm 34 = .ok (.iload_n 1, 1) := by decide +kernel
theorem dX8_storm_35 : decode cX8_storm 35 = .ok (.iaload, 1) := by decide +kernel
theorem dX8_storm_36 : decode cX8_storm 36 = .ok (.aload_n 0, 1) := by decide +kernel
theorem dX8_storm_37 : decode cX8_storm 37 = .ok (.getfield 51, 3) := by decide +kernel
theorem dX8_storm_40 : decode cX8_storm 40 = .ok (.if_icmp .ge 10, 3) := by decide +kernel
theorem dX8_storm_43 : decode cX8_storm 43 = .ok (.aload_n 0, 1) := by decide +kernel
theorem dX8_storm_44 : decode cX8_storm 44 = .ok (.getfield 42, 3) := by decide +kernel
theorem dX8_storm_47 : decode cX8_storm 47 = .ok (.iload_n 1, 1) := by decide +kernel
theorem dX8_storm_48 : decode cX8_storm 48 = .ok (.iconst 1, 1) := by decide +kernel
theorem dX8_storm_49 : decode cX8_storm 49 = .ok (.bastore, 1) := by decide +kernel
theorem dX8_storm_50 : decode cX8_storm 50 = .ok (.iinc 1 1, 3) := by decide +kernel
theorem dX8_storm_53 : decode cX8_storm 53 = .ok (.goto (-51), 3) := by decide +kernel
theorem dX8_storm_56 : decode cX8_storm 56 = .ok (.aload_n 0, 1) := by decide +kernel
theorem dX8_storm_57 : decode cX8_storm 57 = .ok (.dup, 1) := by decide +kernel
theorem dX8_storm_58 : decode cX8_storm 58 = .ok (.getfield 57, 3) := by decide +kernel
theorem dX8_storm_61 : decode cX8_storm 61 = .ok (.iconst 1, 1) := by decide +kernel
theorem dX8_storm_62 : decode cX8_storm 62 = .ok (.iadd, 1) := by decide +kernel
theorem dX8_storm_63 : decode cX8_storm 63 = .ok (.putfield 57, 3) := by decide +kernel
theorem dX8_storm_66 : decode cX8_storm 66 = .ok (.aload_n 0, 1) := by decide +kernel
theorem dX8_storm_67 : decode cX8_storm 67 = .ok (.dup, 1) := by decide +kernel
theorem dX8_storm_68 : decode cX8_storm 68 = .ok (.getfield 48, 3) := by decide +kernel
theorem dX8_storm_71 : decode cX8_storm 71 = .ok (.iconst 2, 1) := by decide +kernel
theorem dX8_storm_72 : decode cX8_storm 72 = .ok (.idiv, 1) := by decide +kernel
theorem dX8_storm_73 : decode cX8_storm 73 = .ok (.putfield 48, 3) := by decide +kernel
theorem dX8_storm_76 : decode cX8_storm 76 = .ok (.aload_n 0, 1) := by decide +kernel
theorem dX8_storm_77 : decode cX8_storm 77 = .ok (.dup, 1) := by decide +kernel
theorem dX8_storm_78 : decode cX8_storm 78 = .ok (.getfield 51, 3) := by decide +kernel
theorem dX8_storm_81 : decode cX8_storm 81 = .ok (.bipush 12, 2) := by decide +kernel
theorem dX8_storm_83 : decode cX8_storm 83 = .ok (.isub, 1) := by decide +kernel
theorem dX8_storm_84 : decode cX8_storm 84 = .ok (.putfield 51, 3) := by decide +kernel
theorem dX8_storm_87 : decode cX8_storm 87 = .ok (.return_, 1) := by decide +kernel
theorem dX9_init_0 : decode cX9_init 0 = .ok (.aload_n 0, 1) := by decide +kernel
theorem dX9_init_1 : decode cX9_init 1 = .ok (.invokespecial 3, 3) := by decide +kernel
theorem dX9_init_4 : decode cX9_init 4 = .ok (.aload_n 0, 1) := by decide +kernel
theorem dX9_init_5 : decode cX9_init 5 = .ok (.sipush 400, 3) := by decide +kernel
theorem dX9_init_8 : decode cX9_init 8 = .ok (.newarray .int, 2) := by decide +kernel
theorem dX9_init_10 : decode cX9_init 10 = .ok (.putfield 9, 3) := by decide +kernel
theorem dX9_init_13 : decode cX9_init 13 = .ok (.return_, 1) := by decide +kernel
theorem dX9_holds_0 : decode cX9_holds 0 = .ok (.aload_n 0, 1) := by decide +kernel
theorem dX9_holds_1 : decode cX9_holds 1 = .ok (.iconst 0, 1) := by decide +kernel
theorem dX9_holds_2 : decode cX9_holds 2 = .ok (.putfield 15, 3) := by decide +kernel
theorem dX9_holds_5 : decode cX9_holds 5 = .ok (.aload_n 1, 1) := by decide +kernel
theorem dX9_holds_6 : decode cX9_holds 6 = .ok (.getfield 19, 3) := by decide +kernel
theorem dX9_holds_9 : decode cX9_holds 9 = .ok (.iload_n 2, 1) := by decide +kernel
theorem dX9_holds_10 : decode cX9_holds 10 = .ok (.iaload, 1) := by decide +kernel
theorem dX9_holds_11 : decode cX9_holds 11 = .ok (.istore 4, 2) := by decide +kernel
theorem dX9_holds_13 : decode cX9_holds 13 = .ok (.iload 4, 2) := by decide +kernel
theorem dX9_holds_15 : decode cX9_holds 15 = .ok (.aload_n 1, 1) := by decide +kernel
theorem dX9_holds_16 : decode cX9_holds 16 = .ok (.getfield 24, 3) := by decide +kernel
theorem dX9_holds_19 : decode cX9_holds 19 = .ok (.iload_n 2, 1) := by decide +kernel
theorem dX9_holds_20 : decode cX9_holds 20 = .ok (.iaload, 1) := by decide +kernel
theorem dX9_holds_21 : decode cX9_holds 21 = .ok (.if_icmp .ge 28, 3) := by decide +kernel
theorem dX9_holds_24 : decode cX9_holds 24 = .ok (.aload_n 0, 1) := by decide +kernel
theorem dX9_holds_25 : decode cX9_holds 25 = .ok (.aload_n 1, 1) := by decide +kernel
theorem dX9_holds_26 : decode cX9_holds 26 = .ok (.getfield 27, 3) := by decide +kernel
theorem dX9_holds_29 : decode cX9_holds 29 = .ok (.iload 4, 2) := by decide +kernel
theorem dX9_holds_31 : decode cX9_holds 31 = .ok (.aaload, 1) := by decide +kernel
theorem dX9_holds_32 : decode cX9_holds 32 = .ok (.aload_n 1, 1) := by decide +kernel
theorem dX9_holds_33 : decode cX9_holds 33 = .ok (.getfield 31, 3) := by decide +kernel
theorem dX9_holds_36 : decode cX9_holds 36 = .ok (.iload 4, 2) := by decide +kernel
theorem dX9_holds_38 : decode cX9_holds 38 = .ok (.iaload, 1) := by decide +kernel
theorem dX9_holds_39 : decode cX9_holds 39 = .ok (.aload_n 3, 1) := by decide +kernel
theorem dX9_holds_40 : decode cX9_holds 40 = .ok (.invokevirtual 34, 3) := by decide +kernel
theorem dX9_holds_43 : decode cX9_holds 43 = .ok (.iinc 4 1, 3) := by decide +kernel
theorem dX9_holds_46 : decode cX9_holds 46 = .ok (.goto (-33), 3) := by decide +kernel
theorem dX9_holds_49 : decode cX9_holds 49 = .ok (.aload_n 0, 1) := by decide +kernel
theorem dX9_holds_50 : decode cX9_holds 50 = .ok (.getfield 15, 3) := by decide +kernel
theorem dX9_holds_53 : decode cX9_holds 53 = .ok (.ifCond .eq 10, 3) := by decide +kernel
theorem dX9_holds_56 : decode cX9_holds 56 = .ok (.aload_n 0, 1) := by decide +kernel
theorem dX9_holds_57 : decode cX9_holds 57 = .ok (.invokevirtual 38, 3) := by decide +kernel
theorem dX9_holds_60 : decode cX9_holds 60 = .ok (.ifCond .eq 7, 3) := by decide +kernel
theorem dX9_holds_63 : decode cX9_holds 63 = .ok (.iconst 1, 1) := by decide +kernel
theorem dX9_holds_64 : decode cX9_holds 64 = .ok (.goto 4, 3) := by decide +kernel
theorem dX9_holds_67 : decode cX9_holds 67 = .ok (.iconst 0, 1) := by decide +kernel
theorem dX9_holds_68 : decode cX9_holds 68 = .ok (.ireturn, 1) := by decide +kernel
theorem dX9_push_0 : decode cX9_push 0 = .ok (.aload_n 0, 1) := by decide +kernel
theorem dX9_push_1 : decode cX9_push 1 = .ok (.getfield 15, 3) := by decide +kernel
theorem dX9_push_4 : decode cX9_push 4 = .ok (.sipush 400, 3) := by decide +kernel
theorem dX9_push_7 : decode cX9_push 7 = .ok (.if_icmp .ge 23, 3) := by decide +kernel
theorem dX9_push_10 : decode cX9_push 10 = .ok (.aload_n 0, 1) := by decide +kernel
theorem dX9_push_11 : decode cX9_push 11 = .ok (.getfield 9, 3) := by decide +kernel
theorem dX9_push_14 : decode cX9_push 14 = .ok (.aload_n 0, 1) := by decide +kernel
theorem dX9_push_15 : decode cX9_push 15 = .ok (.getfield 15, 3) := by decide +kernel
theorem dX9_push_18 : decode cX9_push 18 = .ok (.iload_n 1, 1) := by decide +kernel
theorem dX9_push_19 : decode cX9_push 19 = .ok (.iastore, 1) := by decide +kernel
theorem dX9_push_20 : decode cX9_push 20 = .ok (.aload_n 0, 1) := by decide +kernel
theorem dX9_push_21 : decode cX9_push 21 = .ok (.dup, 1) := by decide +kernel
theorem dX9_push_22 : decode cX9_push 22 = .ok (.getfield 15, 3) := by decide +kernel
theorem dX9_push_25 : decode cX9_push 25 = .ok (.iconst 1, 1) := by decide +kernel
theorem dX9_push_26 : decode cX9_push 26 = .ok (.iadd, 1) := by decide +kernel
theorem dX9_push_27 : decode cX9_push 27 = .ok (.putfield 15, 3) := by decide +kernel
theorem dX9_push_30 : decode cX9_push 30 = .ok (.return_, 1) := by decide +kernel
theorem dX9_pop_0 : decode cX9_pop 0 = .ok (.aload_n 0, 1) := by decide +kernel
theorem dX9_pop_1 : decode cX9_pop 1 = .ok (.getfield 15, 3) := by decide +kernel
theorem dX9_pop_4 : decode cX9_pop 4 = .ok (.ifCond .gt 5, 3) := by decide +kernel
theorem dX9_pop_7 : decode cX9_pop 7 = .ok (.iconst 0, 1) := by decide +kernel
theorem dX9_pop_8 : decode cX9_pop 8 = .ok (.ireturn, 1) := by decide +kernel
theorem dX9_pop_9 : decode cX9_pop 9 = .ok (.aload_n 0, 1) := by decide +kernel
theorem dX9_pop_10 : decode cX9_pop 10 = .ok (.dup, 1) := by decide +kernel
theorem dX9_pop_11 : decode cX9_pop 11 = .ok (.getfield 15, 3) := by decide +kernel
theorem dX9_pop_14 : decode cX9_pop 14 = .ok (.iconst 1, 1) := by decide +kernel
theorem dX9_pop_15 : decode cX9_pop 15 = .ok (.isub, 1) := by decide +kernel
theorem dX9_pop_16 : decode cX9_pop 16 = .ok (.putfield 15, 3) := by decide +kernel
theorem dX9_pop_19 : decode cX9_pop 19 = .ok (.aload_n 0, 1) := by decide +kernel
theorem dX9_pop_20 : decode cX9_pop 20 = .ok (.getfield 9, 3) := by decide +kernel
theorem dX9_pop_23 : decode cX9_pop 23 = .ok (.aload_n 0, 1) := by decide +kernel
theorem dX9_pop_24 : decode cX9_pop 24 = .ok (.getfield 15, 3) := by decide +kernel
theorem dX9_pop_27 : decode cX9_pop 27 = .ok (.iaload, 1) := by decide +kernel
theorem dX9_pop_28 : decode cX9_pop 28 = .ok (.ireturn, 1) := by decide +kernel
theorem dX9_step_0 : decode cX9_step 0 = .ok (.getstatic 42, 3) := by decide +kernel
theorem dX9_step_3 : decode cX9_step 3 = .ok (.aload_n 1, 1) := by decide +kernel
theorem dX9_step_4 : decode cX9_step 4 = .ok (.invokevirtual 47, 3) := by decide +kernel
theorem dX9_step_7 : decode cX9_step 7 = .ok (.iaload, 1) := by decide +kernel
theorem dX9_step_8 : decode cX9_step 8 = .ok (.tableswitch 167 1 24 #[133, 167, 120, 120, 120, 112, 120, 120, 120, 120, 120, 120, 120, 120, 167, 167, 167, 167, 167, 167, 167, 167, 167, 155], 112) := by decide +kernel
theorem dX9_step_120 : decode cX9_step 120 = .ok (.aload_n 0, 1) := by decide +kernel
theorem dX9_step_121 : decode cX9_step 121 = .ok (.iload_n 2, 1) := by decide +kernel
theorem dX9_step_122 : decode cX9_step 122 = .ok (.invokevirtual 52, 3) := by decide +kernel
theorem dX9_step_125 : decode cX9_step 125 = .ok (.goto 55, 3) := by decide +kernel
theorem dX9_step_128 : decode cX9_step 128 = .ok (.aload_n 0, 1) := by decide +kernel
theorem dX9_step_129 : decode cX9_step 129 = .ok (.aload_n 3, 1) := by decide +kernel
theorem dX9_step_130 : decode cX9_step 130 = .ok (.aload_n 1, 1) := by decide +kernel
theorem dX9_step_131 : decode cX9_step 131 = .ok (.iload_n 2, 1) := by decide +kernel
theorem dX9_step_132 : decode cX9_step 132 = .ok (.invokevirtual 56, 3) := by decide +kernel
theorem dX9_step_135 : decode cX9_step 135 = .ok (.invokevirtual 52, 3) := by decide +kernel
theorem dX9_step_138 : decode cX9_step 138 = .ok (.goto 42, 3) := by decide +kernel
theorem dX9_step_141 : decode cX9_step 141 = .ok (.aload_n 0, 1) := by decide +kernel
theorem dX9_step_142 : decode cX9_step 142 = .ok (.aload_n 0, 1) := by decide +kernel
theorem dX9_step_143 : decode cX9_step 143 = .ok (.invokevirtual 38, 3) := by decide +kernel
theorem dX9_step_146 : decode cX9_step 146 = .ok (.ifCond .ne 7, 3) := by decide +kernel
theorem dX9_step_149 : decode cX9_step 149 = .ok (.iconst 1, 1) := by decide +kernel
theorem dX9_step_150 : decode cX9_step 150 = .ok (.goto 4, 3) := by decide +kernel
theorem dX9_step_153 : decode cX9_step 153 = .ok (.iconst 0, 1) := by decide +kernel
theorem dX9_step_154 : decode cX9_step 154 = .ok (.invokestatic 62, 3) := by decide +kernel
theorem dX9_step_157 : decode cX9_step 157 = .ok (.invokevirtual 52, 3) := by decide +kernel
theorem dX9_step_160 : decode cX9_step 160 = .ok (.goto 20, 3) := by decide +kernel
theorem dX9_step_163 : decode cX9_step 163 = .ok (.aload_n 0, 1) := by decide +kernel
theorem dX9_step_164 : decode cX9_step 164 = .ok (.aload_n 0, 1) := by decide +kernel
theorem dX9_step_165 : decode cX9_step 165 = .ok (.invokevirtual 38, 3) := by decide +kernel
theorem dX9_step_168 : decode cX9_step 168 = .ok (.ineg, 1) := by decide +kernel
theorem dX9_step_169 : decode cX9_step 169 = .ok (.invokevirtual 52, 3) := by decide +kernel
theorem dX9_step_172 : decode cX9_step 172 = .ok (.goto 8, 3) := by decide +kernel
theorem dX9_step_175 : decode cX9_step 175 = .ok (.aload_n 0, 1) := by decide +kernel
theorem dX9_step_176 : decode cX9_step 176 = .ok (.aload_n 1, 1) := by decide +kernel
theorem dX9_step_177 : decode cX9_step 177 = .ok (.invokevirtual 66, 3) := by decide +kernel
theorem dX9_step_180 : decode cX9_step 180 = .ok (.return_, 1) := by decide +kernel
theorem dX9_joinTwo_0 : decode cX9_joinTwo 0 = .ok (.aload_n 0, 1) := by decide +kernel
theorem dX9_joinTwo_1 : decode cX9_joinTwo 1 = .ok (.invokevirtual 38, 3) := by decide +kernel
theorem dX9_joinTwo_4 : decode cX9_joinTwo 4 = .ok (.istore_n 2, 1) := by decide +kernel
theorem dX9_joinTwo_5 : decode cX9_joinTwo 5 = .ok (.aload_n 0, 1) := by decide +kernel
theorem dX9_joinTwo_6 : decode cX9_joinTwo 6 = .ok (.invokevirtual 38, 3) := by decide +kernel
theorem dX9_joinTwo_9 : decode cX9_joinTwo 9 = .ok (.istore_n 3, 1) := by decide +kernel
theorem dX9_joinTwo_10 : decode cX9_joinTwo 10 = .ok (.aload_n 0, 1) := by decide +kernel
theorem dX9_joinTwo_11 : decode cX9_joinTwo 11 = .ok (.aload_n 1, 1) := by decide +kernel
theorem dX9_joinTwo_12 : decode cX9_joinTwo 12 = .ok (.iload_n 3, 1) := by decide +kernel
theorem dX9_joinTwo_13 : decode cX9_joinTwo 13 = .ok (.iload_n 2, 1) := by decide +kernel
theorem dX9_joinTwo_14 : decode cX9_joinTwo 14 = .ok (.invokestatic 70, 3) := by decide +kernel
theorem dX9_joinTwo_17 : decode cX9_joinTwo 17 = .ok (.invokevirtual 52, 3) := by decide +kernel
theorem dX9_joinTwo_20 : decode cX9_joinTwo 20 = .ok (.return_, 1) := by decide +kernel
theorem dX9_join_0 : decode cX9_join 0 = .ok (.getstatic 42, 3) := by decide +kernel
theorem dX9_join_3 : decode cX9_join 3 = .ok (.aload_n 0, 1) := by decide +kernel
theorem dX9_join_4 : decode cX9_join 4 = .ok (.invokevirtual 47, 3) := by decide +kernel
theorem dX9_join_7 : decode cX9_join 7 = .ok (.iaload, 1) := by decide +kernel
theorem dX9_join_8 : decode cX9_join 8 = .ok (.tableswitch 210 15 34 #[100, 210, 120, 126, 210, 210, 210, 210, 210, 210, 96, 104, 108, 132, 146, 160, 174, 188, 202, 206], 96) := by decide +kernel
theorem dX9_join_104 : decode cX9_join 104 = .ok (.iload_n 1, 1) := by decide +kernel
theorem dX9_join_105 : decode cX9_join 105 = .ok (.iload_n 2, 1) := by decide +kernel
theorem dX9_join_106 : decode cX9_join 106 = .ok (.iadd, 1) := by decide +kernel
theorem dX9_join_107 : decode cX9_join 107 = .ok (.ireturn, 1) := by decide +kernel
theorem dX9_join_108 : decode cX9_join 108 = .ok (.iload_n 1, 1) := by decide +kernel
theorem dX9_join_109 : decode cX9_join 109 = .ok (.iload_n 2, 1) := by decide +kernel
theorem dX9_join_110 : decode cX9_join 110 = .ok (.isub, 1) := by decide +kernel
theorem dX9_join_111 : decode cX9_join 111 = .ok (.ireturn, 1) := by decide +kernel
theorem dX9_join_112 : decode cX9_join 112 = .ok (.iload_n 1, 1) := by decide +kernel
theorem dX9_join_113 : decode cX9_join 113 = .ok (.iload_n 2, 1) := by decide +kernel
theorem dX9_join_114 : decode cX9_join 114 = .ok (.imul, 1) := by decide +kernel
theorem dX9_join_115 : decode cX9_join 115 = .ok (.ireturn, 1) := by decide +kernel
theorem dX9_join_116 : decode cX9_join 116 = .ok (.iload_n 2, 1) := by decide +kernel
theorem dX9_join_117 : decode cX9_join 117 = .ok (.ifCond .ne 7, 3) := by decide +kernel
theorem dX9_join_120 : decode cX9_join 120 = .ok (.iconst 0, 1) := by decide +kernel
theorem dX9_join_121 : decode cX9_join 121 = .ok (.goto 6, 3) := by decide +kernel
theorem dX9_join_124 : decode cX9_join 124 = .ok (.iload_n 1, 1) := by decide +kernel
theorem dX9_join_125 : decode cX9_join 125 = .ok (.iload_n 2, 1) := by decide +kernel
theorem dX9_join_126 : decode cX9_join 126 = .ok (.idiv, 1) := by decide +kernel
theorem dX9_join_127 : decode cX9_join 127 = .ok (.ireturn, 1) := by decide +kernel
theorem dX9_join_128 : decode cX9_join 128 = .ok (.iload_n 1, 1) := by decide +kernel
theorem dX9_join_129 : decode cX9_join 129 = .ok (.iload_n 2, 1) := by decide +kernel
theorem dX9_join_130 : decode cX9_join 130 = .ok (.invokestatic 74, 3) := by decide +kernel
theorem dX9_join_133 : decode cX9_join 133 = .ok (.ireturn, 1) := by decide +kernel
theorem dX9_join_134 : decode cX9_join 134 = .ok (.iload_n 1, 1) := by decide +kernel
theorem dX9_join_135 : decode cX9_join 135 = .ok (.iload_n 2, 1) := by decide +kernel
theorem dX9_join_136 : decode cX9_join 136 = .ok (.invokestatic 80, 3) := by decide +kernel
theorem dX9_join_139 : decode cX9_join 139 = .ok (.ireturn, 1) := by decide +kernel
theorem dX9_join_140 : decode cX9_join 140 = .ok (.iload_n 1, 1) := by decide +kernel
theorem dX9_join_141 : decode cX9_join 141 = .ok (.iload_n 2, 1) := by decide +kernel
theorem dX9_join_142 : decode cX9_join 142 = .ok (.if_icmp .ge 7, 3) := by decide +kernel
theorem dX9_join_145 : decode cX9_join 145 = .ok (.iconst 1, 1) := by decide +kernel
theorem dX9_join_146 : decode cX9_join 146 = .ok (.goto 4, 3) := by decide +kernel
theorem dX9_join_149 : decode cX9_join 149 = .ok (.iconst 0, 1) := by decide +kernel
theorem dX9_join_150 : decode cX9_join 150 = .ok (.invokestatic 62, 3) := by decide +kernel
theorem dX9_join_153 : decode cX9_join 153 = .ok (.ireturn, 1) := by decide +kernel
theorem dX9_join_154 : decode cX9_join 154 = .ok (.iload_n 1, 1) := by decide +kernel
theorem dX9_join_155 : decode cX9_join 155 = .ok (.iload_n 2, 1) := by decide +kernel
theorem dX9_join_156 : decode cX9_join 156 = .ok (.if_icmp .le 7, 3) := by decide +kernel
theorem dX9_join_159 : decode cX9_join 159 = .ok (.iconst 1, 1) := by decide +kernel
theorem dX9_join_160 : decode cX9_join 160 = .ok (.goto 4, 3) := by decide +kernel
theorem dX9_join_163 : decode cX9_join 163 = .ok (.iconst 0, 1) := by decide +kernel
theorem dX9_join_164 : decode cX9_join 164 = .ok (.invokestatic 62, 3) := by decide +kernel
theorem dX9_join_167 : decode cX9_join 167 = .ok (.ireturn, 1) := by decide +kernel
theorem dX9_join_168 : decode cX9_join 168 = .ok (.iload_n 1, 1) := by decide +kernel
theorem dX9_join_169 : decode cX9_join 169 = .ok (.iload_n 2, 1) := by decide +kernel
theorem dX9_join_170 : decode cX9_join 170 = .ok (.if_icmp .ne 7, 3) := by decide +kernel
theorem dX9_join_173 : decode cX9_join 173 = .ok (.iconst 1, 1) := by decide +kernel
theorem dX9_join_174 : decode cX9_join 174 = .ok (.goto 4, 3) := by decide +kernel
theorem dX9_join_177 : decode cX9_join 177 = .ok (.iconst 0, 1) := by decide +kernel
theorem dX9_join_178 : decode cX9_join 178 = .ok (.invokestatic 62, 3) := by decide +kernel
theorem dX9_join_181 : decode cX9_join 181 = .ok (.ireturn, 1) := by decide +kernel
theorem dX9_join_182 : decode cX9_join 182 = .ok (.iload_n 1, 1) := by decide +kernel
theorem dX9_join_183 : decode cX9_join 183 = .ok (.iload_n 2, 1) := by decide +kernel
theorem dX9_join_184 : decode cX9_join 184 = .ok (.if_icmp .gt 7, 3) := by decide +kernel
theorem dX9_join_187 : decode cX9_join 187 = .ok (.iconst 1, 1) := by decide +kernel
theorem dX9_join_188 : decode cX9_join 188 = .ok (.goto 4, 3) := by decide +kernel
theorem dX9_join_191 : decode cX9_join 191 = .ok (.iconst 0, 1) := by decide +kernel
theorem dX9_join_192 : decode cX9_join 192 = .ok (.invokestatic 62, 3) := by decide +kernel
theorem dX9_join_195 : decode cX9_join 195 = .ok (.ireturn, 1) := by decide +kernel
theorem dX9_join_196 : decode cX9_join 196 = .ok (.iload_n 1, 1) := by decide +kernel
theorem dX9_join_197 : decode cX9_join 197 = .ok (.iload_n 2, 1) := by decide +kernel
theorem dX9_join_198 : decode cX9_join 198 = .ok (.if_icmp .lt 7, 3) := by decide +kernel
theorem dX9_join_201 : decode cX9_join 201 = .ok (.iconst 1, 1) := by decide +kernel
theorem dX9_join_202 : decode cX9_join 202 = .ok (.goto 4, 3) := by decide +kernel
theorem dX9_join_205 : decode cX9_join 205 = .ok (.iconst 0, 1) := by decide +kernel
theorem dX9_join_206 : decode cX9_join 206 = .ok (.invokestatic 62, 3) := by decide +kernel
theorem dX9_join_209 : decode cX9_join 209 = .ok (.ireturn, 1) := by decide +kernel
theorem dX9_join_210 : decode cX9_join 210 = .ok (.iload_n 1, 1) := by decide +kernel
theorem dX9_join_211 : decode cX9_join 211 = .ok (.iload_n 2, 1) := by decide +kernel
theorem dX9_join_212 : decode cX9_join 212 = .ok (.iand, 1) := by decide +kernel
theorem dX9_join_213 : decode cX9_join 213 = .ok (.ireturn, 1) := by decide +kernel
theorem dX9_join_214 : decode cX9_join 214 = .ok (.iload_n 1, 1) := by decide +kernel
theorem dX9_join_215 : decode cX9_join 215 = .ok (.iload_n 2, 1) := by decide +kernel
theorem dX9_join_216 : decode cX9_join 216 = .ok (.ior, 1) := by decide +kernel
theorem dX9_join_217 : decode cX9_join 217 = .ok (.ireturn, 1) := by decide +kernel
theorem dX9_join_218 : decode cX9_join 218 = .ok (.iconst 0, 1) := by decide +kernel
theorem dX9_join_219 : decode cX9_join 219 = .ok (.ireturn, 1) := by decide +kernel
theorem dX10_init_0 : decode cX10_init 0 = .ok (.aload_n 0, 1) := by decide +kernel
theorem dX10_init_1 : decode cX10_init 1 = .ok (.invokespecial 3, 3) := by decide +kernel
theorem dX10_init_4 : decode cX10_init 4 = .ok (.aload_n 0, 1) := by decide +kernel
theorem dX10_init_5 : decode cX10_init 5 = .ok (.sipush 2000, 3) := by decide +kernel
theorem dX10_init_8 : decode cX10_init 8 = .ok (.newarray .byte, 2) := by decide +kernel
theorem dX10_init_10 : decode cX10_init 10 = .ok (.putfield 9, 3) := by decide +kernel
theorem dX10_init_13 : decode cX10_init 13 = .ok (.return_, 1) := by decide +kernel
theorem dX10_append_0 : decode cX10_append 0 = .ok (.bipush 24, 2) := by decide +kernel
theorem dX10_append_2 : decode cX10_append 2 = .ok (.istore_n 2, 1) := by decide +kernel
theorem dX10_append_3 : decode cX10_append 3 = .ok (.iload_n 2, 1) := by decide +kernel
theorem dX10_append_4 : decode cX10_append 4 = .ok (.ifCond .lt 42, 3) := by decide +kernel
theorem dX10_append_7 : decode cX10_append 7 = .ok (.aload_n 0, 1) := by decide +kernel
theorem dX10_append_8 : decode cX10_append 8 = .ok (.getfield 15, 3) := by decide +kernel
theorem dX10_append_11 : decode cX10_append 11 = .ok (.sipush 2000, 3) := by decide +kernel
theorem dX10_append_14 : decode cX10_append 14 = .ok (.if_icmp .ge 32, 3) := by decide +kernel
theorem dX10_append_17 : decode cX10_append 17 = .ok (.aload_n 0, 1) := by decide +kernel
theorem dX10_append_18 : decode cX10_append 18 = .ok (.getfield 9, 3) := by decide +kernel
theorem dX10_append_21 : decode cX10_append 21 = .ok (.aload_n 0, 1) := by decide +kernel
theorem dX10_append_22 : decode cX10_append 22 = .ok (.getfield 15, 3) := by decide +kernel
theorem dX10_append_25 : decode cX10_append 25 = .ok (.iload_n 1, 1) := by decide +kernel
theorem dX10_append_26 : decode cX10_append 26 = .ok (.iload_n 2, 1) := by decide +kernel
theorem dX10_append_27 : decode cX10_append 27 = .ok (.ishr, 1) := by decide +kernel
theorem dX10_append_28 : decode cX10_append 28 = .ok (.i2b, 1) := by decide +kernel
theorem dX10_append_29 : decode cX10_append 29 = .ok (.bastore, 1) := by decide +kernel
theorem dX10_append_30 : decode cX10_append 30 = .ok (.aload_n 0, 1) := by decide +kernel
theorem dX10_append_31 : decode cX10_append 31 = .ok (.dup, 1) := by decide +kernel
theorem dX10_append_32 : decode cX10_append 32 = .ok (.getfield 15, 3) := by decide +kernel
theorem dX10_append_35 : decode cX10_append 35 = .ok (.iconst 1, 1) := by decide +kernel
theorem dX10_append_36 : decode cX10_append 36 = .ok (.iadd, 1) := by decide +kernel
theorem dX10_append_37 : decode cX10_append 37 = .ok (.putfield 15, 3) := by decide +kernel
theorem dX10_append_40 : decode cX10_append 40 = .ok (.iinc 2 (-8), 3) := by decide +kernel
theorem dX10_append_43 : decode cX10_append 43 = .ok (.goto (-40), 3) := by decide +kernel
theorem dX10_append_46 : decode cX10_append 46 = .ok (.return_, 1) := by decide +kernel
theorem dX10_byteAt_0 : decode cX10_byteAt 0 = .ok (.iload_n 1, 1) := by decide +kernel
theorem dX10_byteAt_1 : decode cX10_byteAt 1 = .ok (.ifCond .lt 29, 3) := by decide +kernel
theorem dX10_byteAt_4 : decode cX10_byteAt 4 = .ok (.iload_n 1, 1) := by decide +kernel
theorem dX10_byteAt_5 : decode cX10_byteAt 5 = .ok (.aload_n 0, 1) := by decide +kernel
theorem dX10_byteAt_6 : decode cX10_byteAt 6 = .ok (.getfield 15, 3) := by decide +kernel
theorem dX10_byteAt_9 : decode cX10_byteAt 9 = .ok (.if_icmp .ge 21, 3) := by decide +kernel
theorem dX10_byteAt_12 : decode cX10_byteAt 12 = .ok (.iload_n 1, 1) := by decide +kernel
theorem dX10_byteAt_13 : decode cX10_byteAt 13 = .ok (.aload_n 0, 1) := by decide +kernel
theorem dX10_byteAt_14 : decode cX10_byteAt 14 = .ok (.getfield 9, 3) := by decide +kernel
theorem dX10_byteAt_17 : decode cX10_byteAt 17 = .ok (.arraylength, 1) := by decide +kernel
theorem dX10_byteAt_18 : decode cX10_byteAt 18 = .ok (.if_icmp .ge 12, 3) := by decide +kernel
theorem dX10_byteAt_21 : decode cX10_byteAt 21 = .ok (.aload_n 0, 1) := by decide +kernel
theorem dX10_byteAt_22 : decode cX10_byteAt 22 = .ok (.getfield 9, 3) := by decide +kernel
theorem dX10_byteAt_25 : decode cX10_byteAt 25 = .ok (.iload_n 1, 1) := by decide +kernel
theorem dX10_byteAt_26 : decode cX10_byteAt 26 = .ok (.baload, 1) := by decide +kernel
theorem dX10_byteAt_27 : decode cX10_byteAt 27 = .ok (.goto 4, 3) := by decide +kernel
theorem dX10_byteAt_30 : decode cX10_byteAt 30 = .ok (.iconst 0, 1) := by decide +kernel
theorem dX10_byteAt_31 : decode cX10_byteAt 31 = .ok (.ireturn, 1) := by decide +kernel
theorem dX10_hasText_0 : decode cX10_hasText 0 = .ok (.aload_n 3, 1) := by decide +kernel
theorem dX10_hasText_1 : decode cX10_hasText 1 = .ok (.invokevirtual 19, 3) := by decide +kernel
theorem dX10_hasText_4 : decode cX10_hasText 4 = .ok (.iload_n 2, 1) := by decide +kernel
theorem dX10_hasText_5 : decode cX10_hasText 5 = .ok (.if_icmp .eq 5, 3) := by decide +kernel
theorem dX10_hasText_8 : decode cX10_hasText 8 = .ok (.iconst 0, 1) := by decide +kernel
theorem dX10_hasText_9 : decode cX10_hasText 9 = .ok (.ireturn, 1) := by decide +kernel
theorem dX10_hasText_10 : decode cX10_hasText 10 = .ok (.iconst 0, 1) := by decide +kernel
theorem dX10_hasText_11 : decode cX10_hasText 11 = .ok (.istore 4, 2) := by decide +kernel
theorem dX10_hasText_13 : decode cX10_hasText 13 = .ok (.iload 4, 2) := by decide +kernel
theorem dX10_hasText_15 : decode cX10_hasText 15 = .ok (.iload_n 2, 1) := by decide +kernel
theorem dX10_hasText_16 : decode cX10_hasText 16 = .ok (.if_icmp .ge 28, 3) := by decide +kernel
theorem dX10_hasText_19 : decode cX10_hasText 19 = .ok (.aload_n 0, 1) := by decide +kernel
theorem dX10_hasText_20 : decode cX10_hasText 20 = .ok (.iload_n 1, 1) := by decide +kernel
theorem dX10_hasText_21 : decode cX10_hasText 21 = .ok (.iload 4, 2) := by decide +kernel
theorem dX10_hasText_23 : decode cX10_hasText 23 = .ok (.iadd, 1) := by decide +kernel
theorem dX10_hasText_24 : decode cX10_hasText 24 = .ok (.invokevirtual 24, 3) := by decide +kernel
theorem dX10_hasText_27 : decode cX10_hasText 27 = .ok (.aload_n 3, 1) := by decide +kernel
theorem dX10_hasText_28 : decode cX10_hasText 28 = .ok (.iload 4, 2) := by decide +kernel
theorem dX10_hasText_30 : decode cX10_hasText 30 = .ok (.invokevirtual 28, 3) := by decide +kernel
theorem dX10_hasText_33 : decode cX10_hasText 33 = .ok (.if_icmp .eq 5, 3) := by decide +kernel
theorem dX10_hasText_36 : decode cX10_hasText 36 = .ok (.iconst 0, 1) := by decide +kernel
theorem dX10_hasText_37 : decode cX10_hasText 37 = .ok (.ireturn, 1) := by decide +kernel
theorem dX10_hasText_38 : decode cX10_hasText 38 = .ok (.iinc 4 1, 3) := by decide +kernel
theorem dX10_hasText_41 : decode cX10_hasText 41 = .ok (.goto (-28), 3) := by decide +kernel
theorem dX10_hasText_44 : decode cX10_hasText 44 = .ok (.iconst 1, 1) := by decide +kernel
theorem dX10_hasText_45 : decode cX10_hasText 45 = .ok (.ireturn, 1) := by decide +kernel
theorem dX11_init_0 : decode cX11_init 0 = .ok (.aload_n 0, 1) := by decide +kernel
theorem dX11_init_1 : decode cX11_init 1 = .ok (.invokespecial 3, 3) := by decide +kernel
theorem dX11_init_4 : decode cX11_init 4 = .ok (.aload_n 0, 1) := by decide +kernel
theorem dX11_init_5 : decode cX11_init 5 = .ok (.sipush 401, 3) := by decide +kernel
theorem dX11_init_8 : decode cX11_init 8 = .ok (.anewarray 9, 3) := by decide +kernel
theorem dX11_init_11 : decode cX11_init 11 = .ok (.putfield 11, 3) := by decide +kernel
theorem dX11_init_14 : decode cX11_init 14 = .ok (.aload_n 0, 1) := by decide +kernel
theorem dX11_init_15 : decode cX11_init 15 = .ok (.sipush 401, 3) := by decide +kernel
theorem dX11_init_18 : decode cX11_init 18 = .ok (.newarray .int, 2) := by decide +kernel
theorem dX11_init_20 : decode cX11_init 20 = .ok (.putfield 17, 3) := by decide +kernel
theorem dX11_init_23 : decode cX11_init 23 = .ok (.aload_n 0, 1) := by decide +kernel
theorem dX11_init_24 : decode cX11_init 24 = .ok (.sipush 401, 3) := by decide +kernel
theorem dX11_init_27 : decode cX11_init 27 = .ok (.newarray .long, 2) := by decide +kernel
theorem dX11_init_29 : decode cX11_init 29 = .ok (.putfield 21, 3) := by decide +kernel
theorem dX11_init_32 : decode cX11_init 32 = .ok (.iconst 0, 1) := by decide +kernel
theorem dX11_init_33 : decode cX11_init 33 = .ok (.istore_n 1, 1) := by decide +kernel
theorem dX11_init_34 : decode cX11_init 34 = .ok (.iload_n 1, 1) := by decide +kernel
theorem dX11_init_35 : decode cX11_init 35 = .ok (.sipush 400, 3) := by decide +kernel
theorem dX11_init_38 : decode cX11_init 38 = .ok (.if_icmp .gt 18, 3) := by decide +kernel
theorem dX11_init_41 : decode cX11_init 41 = .ok (.aload_n 0, 1) := by decide +kernel
theorem dX11_init_42 : decode cX11_init 42 = .ok (.getfield 11, 3) := by decide +kernel
theorem dX11_init_45 : decode cX11_init 45 = .ok (.iload_n 1, 1) := by decide +kernel
theorem dX11_init_46 : decode cX11_init 46 = .ok (.getstatic 25, 3) := by decide +kernel
theorem dX11_init_49 : decode cX11_init 49 = .ok (.aastore, 1) := by decide +kernel
theorem dX11_init_50 : decode cX11_init 50 = .ok (.iinc 1 1, 3) := by decide +kernel
theorem dX11_init_53 : decode cX11_init 53 = .ok (.goto (-19), 3) := by decide +kernel
theorem dX11_init_56 : decode cX11_init 56 = .ok (.return_, 1) := by decide +kernel
theorem dX11_readAll_0 : decode cX11_readAll 0 = .ok (.aload_n 0, 1) := by decide +kernel
theorem dX11_readAll_1 : decode cX11_readAll 1 = .ok (.iconst 0, 1) := by decide +kernel
theorem dX11_readAll_2 : decode cX11_readAll 2 = .ok (.putfield 29, 3) := by decide +kernel
theorem dX11_readAll_5 : decode cX11_readAll 5 = .ok (.aload_n 0, 1) := by decide +kernel
theorem dX11_readAll_6 : decode cX11_readAll 6 = .ok (.iconst 0, 1) := by decide +kernel
theorem dX11_readAll_7 : decode cX11_readAll 7 = .ok (.putfield 33, 3) := by decide +kernel
theorem dX11_readAll_10 : decode cX11_readAll 10 = .ok (.aload_n 0, 1) := by decide +kernel
theorem dX11_readAll_11 : decode cX11_readAll 11 = .ok (.iconst 0, 1) := by decide +kernel
theorem dX11_readAll_12 : decode cX11_readAll 12 = .ok (.putfield 36, 3) := by decide +kernel
theorem dX11_readAll_15 : decode cX11_readAll 15 = .ok (.aload_n 0, 1) := by decide +kernel
theorem dX11_readAll_16 : decode cX11_readAll 16 = .ok (.iconst 0, 1) := by decide +kernel
theorem dX11_readAll_17 : decode cX11_readAll 17 = .ok (.putfield 39, 3) := by decide +kernel
theorem dX11_readAll_20 : decode cX11_readAll 20 = .ok (.aload_n 1, 1) := by decide +kernel
theorem dX11_readAll_21 : decode cX11_readAll 21 = .ok (.iconst 0, 1) := by decide +kernel
theorem dX11_readAll_22 : decode cX11_readAll 22 = .ok (.invokestatic 42, 3) := by decide +kernel
theorem dX11_readAll_25 : decode cX11_readAll 25 = .ok (.istore_n 2, 1) := by decide +kernel
theorem dX11_readAll_26 : decode cX11_readAll 26 = .ok (.iconst 0, 1) := by decide +kernel
theorem dX11_readAll_27 : decode cX11_readAll 27 = .ok (.istore_n 3, 1) := by decide +kernel
theorem dX11_readAll_28 : decode cX11_readAll 28 = .ok (.iload_n 3, 1) := by decide +kernel
theorem dX11_readAll_29 : decode cX11_readAll 29 = .ok (.sipush 400, 3) := by decide +kernel
theorem dX11_readAll_32 : decode cX11_readAll 32 = .ok (.if_icmp .ge 67, 3) := by decide +kernel
theorem dX11_readAll_35 : decode cX11_readAll 35 = .ok (.iload_n 2, 1) := by decide +kernel
theorem dX11_readAll_36 : decode cX11_readAll 36 = .ok (.aload_n 1, 1) := by decide +kernel
theorem dX11_readAll_37 : decode cX11_readAll 37 = .ok (.getfield 46, 3) := by decide +kernel
theorem dX11_readAll_40 : decode cX11_readAll 40 = .ok (.if_icmp .ge 59, 3) := by decide +kernel
theorem dX11_readAll_43 : decode cX11_readAll 43 = .ok (.aload_n 1, 1) := by decide +kernel
theorem dX11_readAll_44 : decode cX11_readAll 44 = .ok (.iload_n 2, 1) := by decide +kernel
theorem dX11_readAll_45 : decode cX11_readAll 45 = .ok (.invokestatic 51, 3) := by decide +kernel
theorem dX11_readAll_48 : decode cX11_readAll 48 = .ok (.istore 4, 2) := by decide +kernel
theorem dX11_readAll_50 : decode cX11_readAll 50 = .ok (.aload_n 1, 1) := by decide +kernel
theorem dX11_readAll_51 : decode cX11_readAll 51 = .ok (.iload_n 2, 1) := by decide +kernel
theorem dX11_readAll_52 : decode cX11_readAll 52 = .ok (.iload 4, 2) := by decide +kernel
theorem dX11_readAll_54 : decode cX11_readAll 54 = .ok (.invokestatic 54, 3) := by decide +kernel
theorem dX11_readAll_57 : decode cX11_readAll 57 = .ok (.astore 5, 2) := by decide +kernel
theorem dX11_readAll_59 : decode cX11_readAll 59 = .ok (.aload 5, 2) := by decide +kernel
theorem dX11_readAll_61 : decode cX11_readAll 61 = .ok (.getstatic 58, 3) := by decide +kernel
theorem dX11_readAll_64 : decode cX11_readAll 64 = .ok (.if_acmp .ne 6, 3) := by decide +kernel
theorem dX11_readAll_67 : decode cX11_readAll 67 = .ok (.goto 32, 3) := by decide +kernel
theorem dX11_readAll_70 : decode cX11_readAll 70 = .ok (.aload_n 0, 1) := by decide +kernel
theorem dX11_readAll_71 : decode cX11_readAll 71 = .ok (.aload 5, 2) := by decide +kernel
theorem dX11_readAll_73 : decode cX11_readAll 73 = .ok (.iload_n 2, 1) := by decide +kernel
theorem dX11_readAll_74 : decode cX11_readAll 74 = .ok (.aload_n 1, 1) := by decide +kernel
theorem dX11_readAll_75 : decode cX11_readAll 75 = .ok (.iload_n 2, 1) := by decide +kernel
theorem dX11_readAll_76 : decode cX11_readAll 76 = .ok (.iload 4, 2) := by decide +kernel
theorem dX11_readAll_78 : decode cX11_readAll 78 = .ok (.invokestatic 61, 3) := by decide +kernel
theorem dX11_readAll_81 : decode cX11_readAll 81 = .ok (.invokevirtual 65, 3) := by decide +kernel
theorem dX11_readAll_84 : decode cX11_readAll 84 = .ok (.aload_n 1, 1) := by decide +kernel
theorem dX11_readAll_85 : decode cX11_readAll 85 = .ok (.iload_n 2, 1) := by decide +kernel
theorem dX11_readAll_86 : decode cX11_readAll 86 = .ok (.iload 4, 2) := by decide +kernel
theorem dX11_readAll_88 : decode cX11_readAll 88 = .ok (.iadd, 1) := by decide +kernel
theorem dX11_readAll_89 : decode cX11_readAll 89 = .ok (.invokestatic 42, 3) := by decide +kernel
theorem dX11_readAll_92 : decode cX11_readAll 92 = .ok (.istore_n 2, 1) := by decide +kernel
theorem dX11_readAll_93 : decode cX11_readAll 93 = .ok (.iinc 3 1, 3) := by decide +kernel
theorem dX11_readAll_96 : decode cX11_readAll 96 = .ok (.goto (-68), 3) := by decide +kernel
theorem dX11_readAll_99 : decode cX11_readAll 99 = .ok (.aload_n 0, 1) := by decide +kernel
theorem dX11_readAll_100 : decode cX11_readAll 100 = .ok (.iload_n 2, 1) := by decide +kernel
theorem dX11_readAll_101 : decode cX11_readAll 101 = .ok (.aload_n 1, 1) := by decide +kernel
theorem dX11_readAll_102 : decode cX11_readAll 102 = .ok (.getfield 46, 3) := by decide +kernel
theorem dX11_readAll_105 : decode cX11_readAll 105 = .ok (.if_icmp .ge 9, 3) := by decide +kernel
theorem dX11_readAll_108 : decode cX11_readAll 108 = .ok (.getstatic 58, 3) := by decide +kernel
theorem dX11_readAll_111 : decode cX11_readAll 111 = .ok (.goto 6, 3) := by decide +kernel
theorem dX11_readAll_114 : decode cX11_readAll 114 = .ok (.getstatic 25, 3) := by decide +kernel
theorem dX11_readAll_117 : decode cX11_readAll 117 = .ok (.iload_n 2, 1) := by decide +kernel
theorem dX11_readAll_118 : decode cX11_readAll 118 = .ok (.lconst 0, 1) := by decide +kernel
theorem dX11_readAll_119 : decode cX11_readAll 119 = .ok (.invokevirtual 65, 3) := by decide +kernel
theorem dX11_readAll_122 : decode cX11_readAll 122 = .ok (.return_, 1) := by decide +kernel
theorem dX11_add_0 : decode cX11_add 0 = .ok (.aload_n 0, 1) := by decide +kernel
theorem dX11_add_1 : decode cX11_add 1 = .ok (.getfield 29, 3) := by decide +kernel
theorem dX11_add_4 : decode cX11_add 4 = .ok (.sipush 400, 3) := by decide +kernel
theorem dX11_add_7 : decode cX11_add 7 = .ok (.if_icmp .gt 43, 3) := by decide +kernel
theorem dX11_add_10 : decode cX11_add 10 = .ok (.aload_n 0, 1) := by decide +kernel
theorem dX11_add_11 : decode cX11_add 11 = .ok (.getfield 11, 3) := by decide +kernel
theorem dX11_add_14 : decode cX11_add 14 = .ok (.aload_n 0, 1) := by decide +kernel
theorem dX11_add_15 : decode cX11_add 15 = .ok (.getfield 29, 3) := by decide +kernel
theorem dX11_add_18 : decode cX11_add 18 = .ok (.aload_n 1, 1) := by decide +kernel
theorem dX11_add_19 : decode cX11_add 19 = .ok (.aastore, 1) := by decide +kernel
theorem dX11_add_20 : decode cX11_add 20 = .ok (.aload_n 0, 1) := by decide +kernel
theorem dX11_add_21 : decode cX11_add 21 = .ok (.getfield 17, 3) := by decide +kernel
theorem dX11_add_24 : decode cX11_add 24 = .ok (.aload_n 0, 1) := by decide +kernel
theorem dX11_add_25 : decode cX11_add 25 = .ok (.getfield 29, 3) := by decide +kernel
theorem dX11_add_28 : decode cX11_add 28 = .ok (.iload_n 2, 1) := by decide +kernel
theorem dX11_add_29 : decode cX11_add 29 = .ok (.iastore, 1) := by decide +kernel
theorem dX11_add_30 : decode cX11_add 30 = .ok (.aload_n 0, 1) := by decide +kernel
theorem dX11_add_31 : decode cX11_add 31 = .ok (.getfield 21, 3) := by decide +kernel
theorem dX11_add_34 : decode cX11_add 34 = .ok (.aload_n 0, 1) := by decide +kernel
theorem dX11_add_35 : decode cX11_add 35 = .ok (.getfield 29, 3) := by decide +kernel
theorem dX11_add_38 : decode cX11_add 38 = .ok (.lload_n 3, 1) := by decide +kernel
theorem dX11_add_39 : decode cX11_add 39 = .ok (.lastore, 1) := by decide +kernel
theorem dX11_add_40 : decode cX11_add 40 = .ok (.aload_n 0, 1) := by decide +kernel
theorem dX11_add_41 : decode cX11_add 41 = .ok (.dup, 1) := by decide +kernel
theorem dX11_add_42 : decode cX11_add 42 = .ok (.getfield 29, 3) := by decide +kernel
theorem dX11_add_45 : decode cX11_add 45 = .ok (.iconst 1, 1) := by decide +kernel
theorem dX11_add_46 : decode cX11_add 46 = .ok (.iadd, 1) := by decide +kernel
theorem dX11_add_47 : decode cX11_add 47 = .ok (.putfield 29, 3) := by decide +kernel
theorem dX11_add_50 : decode cX11_add 50 = .ok (.return_, 1) := by decide +kernel
theorem dX11_behindBlanks_0 : decode cX11_behindBlanks 0 = .ok (.iload_n 1, 1) := by decide +kernel
theorem dX11_behindBlanks_1 : decode cX11_behindBlanks 1 = .ok (.istore_n 2, 1) := by decide +kernel
theorem dX11_behindBlanks_2 : decode cX11_behindBlanks 2 = .ok (.iload_n 2, 1) := by decide +kernel
theorem dX11_behindBlanks_3 : decode cX11_behindBlanks 3 = .ok (.aload_n 0, 1) := by decide +kernel
theorem dX11_behindBlanks_4 : decode cX11_behindBlanks 4 = .ok (.getfield 46, 3) := by decide +kernel
theorem dX11_behindBlanks_7 : decode cX11_behindBlanks 7 = .ok (.if_icmp .ge 29, 3) := by decide +kernel
theorem dX11_behindBlanks_10 : decode cX11_behindBlanks 10 = .ok (.aload_n 0, 1) := by decide +kernel
theorem dX11_behindBlanks_11 : decode cX11_behindBlanks 11 = .ok (.iload_n 2, 1) := by decide +kernel
theorem dX11_behindBlanks_12 : decode cX11_behindBlanks 12 = .ok (.invokevirtual 69, 3) := by decide +kernel
theorem dX11_behindBlanks_15 : decode cX11_behindBlanks 15 = .ok (.bipush 32, 2) := by decide +kernel
theorem dX11_behindBlanks_17 : decode cX11_behindBlanks 17 = .ok (.if_icmp .eq 13, 3) := by decide +kernel
theorem dX11_behindBlanks_20 : decode cX11_behindBlanks 20 = .ok (.aload_n 0, 1) := by decide +kernel
theorem dX11_behindBlanks_21 : decode cX11_behindBlanks 21 = .ok (.iload_n 2, 1) := by decide +kernel
theorem dX11_behindBlanks_22 : decode cX11_behindBlanks 22 = .ok (.invokevirtual 69, 3) := by decide +kernel
theorem dX11_behindBlanks_25 : decode cX11_behindBlanks 25 = .ok (.bipush 10, 2) := by decide +kernel
theorem dX11_behindBlanks_27 : decode cX11_behindBlanks 27 = .ok (.if_icmp .ne 9, 3) := by decide +kernel
theorem dX11_behindBlanks_30 : decode cX11_behindBlanks 30 = .ok (.iinc 2 1, 3) := by decide +kernel
theorem dX11_behindBlanks_33 : decode cX11_behindBlanks 33 = .ok (.goto (-31), 3) := by decide +kernel
theorem dX11_behindBlanks_36 : decode cX11_behindBlanks 36 = .ok (.iload_n 2, 1) := by decide +kernel
theorem dX11_behindBlanks_37 : decode cX11_behindBlanks 37 = .ok (.ireturn, 1) := by decide +kernel
theorem dX11_sizeOf_0 : decode cX11_sizeOf 0 = .ok (.aload_n 0, 1) := by decide +kernel
theorem dX11_sizeOf_1 : decode cX11_sizeOf 1 = .ok (.iload_n 1, 1) := by decide +kernel
theorem dX11_sizeOf_2 : decode cX11_sizeOf 2 = .ok (.invokevirtual 69, 3) := by decide +kernel
theorem dX11_sizeOf_5 : decode cX11_sizeOf 5 = .ok (.istore_n 2, 1) := by decide +kernel
theorem dX11_sizeOf_6 : decode cX11_sizeOf 6 = .ok (.iload_n 2, 1) := by decide +kernel
theorem dX11_sizeOf_7 : decode cX11_sizeOf 7 = .ok (.invokestatic 73, 3) := by decide +kernel
theorem dX11_sizeOf_10 : decode cX11_sizeOf 10 = .ok (.ifCond .ne 40, 3) := by decide +kernel
theorem dX11_sizeOf_13 : decode cX11_sizeOf 13 = .ok (.iload_n 2, 1) := by decide +kernel
theorem dX11_sizeOf_14 : decode cX11_sizeOf 14 = .ok (.invokestatic 77, 3) := by decide +kernel
theorem dX11_sizeOf_17 : decode cX11_sizeOf 17 = .ok (.ifCond .ne 33, 3) := by decide +kernel
theorem dX11_sizeOf_20 : decode cX11_sizeOf 20 = .ok (.iload_n 2, 1) := by decide +kernel
theorem dX11_sizeOf_21 : decode cX11_sizeOf 21 = .ok (.bipush 60, 2) := by decide +kernel
theorem dX11_sizeOf_23 : decode cX11_sizeOf 23 = .ok (.if_icmp .eq 9, 3) := by decide +kernel
theorem dX11_sizeOf_26 : decode cX11_sizeOf 26 = .ok (.iload_n 2, 1) := by decide +kernel
theorem dX11_sizeOf_27 : decode cX11_sizeOf 27 = .ok (.bipush 62, 2) := by decide +kernel
theorem dX11_sizeOf_29 : decode cX11_sizeOf 29 = .ok (.if_icmp .ne 19, 3) := by decide +kernel
theorem dX11_sizeOf_32 : decode cX11_sizeOf 32 = .ok (.aload_n 0, 1) := by decide +kernel
theorem dX11_sizeOf_33 : decode cX11_sizeOf 33 = .ok (.iload_n 1, 1) := by decide +kernel
theorem dX11_sizeOf_34 : decode cX11_sizeOf 34 = .ok (.iconst 1, 1) := by decide +kernel
theorem dX11_sizeOf_35 : decode cX11_sizeOf 35 = .ok (.iadd, 1) := by decide +kernel
theorem dX11_sizeOf_36 : decode cX11_sizeOf 36 = .ok (.invokevirtual 69, 3) := by decide +kernel
theorem dX11_sizeOf_39 : decode cX11_sizeOf 39 = .ok (.bipush 61, 2) := by decide +kernel
theorem dX11_sizeOf_41 : decode cX11_sizeOf 41 = .ok (.if_icmp .ne 7, 3) := by decide +kernel
theorem dX11_sizeOf_44 : decode cX11_sizeOf 44 = .ok (.iconst 2, 1) := by decide +kernel
theorem dX11_sizeOf_45 : decode cX11_sizeOf 45 = .ok (.goto 4, 3) := by decide +kernel
theorem dX11_sizeOf_48 : decode cX11_sizeOf 48 = .ok (.iconst 1, 1) := by decide +kernel
theorem dX11_sizeOf_49 : decode cX11_sizeOf 49 = .ok (.ireturn, 1) := by decide +kernel
theorem dX11_sizeOf_50 : decode cX11_sizeOf 50 = .ok (.iload_n 1, 1) := by decide +kernel
theorem dX11_sizeOf_51 : decode cX11_sizeOf 51 = .ok (.iconst 1, 1) := by decide +kernel
theorem dX11_sizeOf_52 : decode cX11_sizeOf 52 = .ok (.iadd, 1) := by decide +kernel
theorem dX11_sizeOf_53 : decode cX11_sizeOf 53 = .ok (.istore_n 3, 1) := by decide +kernel
theorem dX11_sizeOf_54 : decode cX11_sizeOf 54 = .ok (.iload_n 3, 1) := by decide +kernel
theorem dX11_sizeOf_55 : decode cX11_sizeOf 55 = .ok (.aload_n 0, 1) := by decide +kernel
theorem dX11_sizeOf_56 : decode cX11_sizeOf 56 = .ok (.getfield 46, 3) := by decide +kernel
theorem dX11_sizeOf_59 : decode cX11_sizeOf 59 = .ok (.if_icmp .ge 38, 3) := by decide +kernel
theorem dX11_sizeOf_62 : decode cX11_sizeOf 62 = .ok (.aload_n 0, 1) := by decide +kernel
theorem dX11_sizeOf_63 : decode cX11_sizeOf 63 = .ok (.iload_n 3, 1) := by decide +kernel
theorem dX11_sizeOf_64 : decode cX11_sizeOf 64 = .ok (.invokevirtual 69, 3) := by decide +kernel
theorem dX11_sizeOf_67 : decode cX11_sizeOf 67 = .ok (.invokestatic 77, 3) := by decide +kernel
theorem dX11_sizeOf_70 : decode cX11_sizeOf 70 = .ok (.ifCond .ne 21, 3) := by decide +kernel
theorem dX11_sizeOf_73 : decode cX11_sizeOf 73 = .ok (.iload_n 2, 1) := by decide +kernel
theorem dX11_sizeOf_74 : decode cX11_sizeOf 74 = .ok (.invokestatic 73, 3) := by decide +kernel
theorem dX11_sizeOf_77 : decode cX11_sizeOf 77 = .ok (.ifCond .eq 20, 3) := by decide +kernel
theorem dX11_sizeOf_80 : decode cX11_sizeOf 80 = .ok (.aload_n 0, 1) := by decide +kernel
theorem dX11_sizeOf_81 : decode cX11_sizeOf 81 = .ok (.iload_n 3, 1) := by decide +kernel
theorem dX11_sizeOf_82 : decode cX11_sizeOf 82 = .ok (.invokevirtual 69, 3) := by decide +kernel
theorem dX11_sizeOf_85 : decode cX11_sizeOf 85 = .ok (.invokestatic 73, 3) := by decide +kernel
theorem dX11_sizeOf_88 : decode cX11_sizeOf 88 = .ok (.ifCond .eq 9, 3) := by decide +kernel
theorem dX11_sizeOf_91 : decode cX11_sizeOf 91 = .ok (.iinc 3 1, 3) := by decide +kernel
theorem dX11_sizeOf_94 : decode cX11_sizeOf 94 = .ok (.goto (-40), 3) := by decide +kernel
theorem dX11_sizeOf_97 : decode cX11_sizeOf 97 = .ok (.iload_n 3, 1) := by decide +kernel
theorem dX11_sizeOf_98 : decode cX11_sizeOf 98 = .ok (.iload_n 1, 1) := by decide +kernel
theorem dX11_sizeOf_99 : decode cX11_sizeOf 99 = .ok (.isub, 1) := by decide +kernel
theorem dX11_sizeOf_100 : decode cX11_sizeOf 100 = .ok (.ireturn, 1) := by decide +kernel
theorem dX11_kindOf_0 : decode cX11_kindOf 0 = .ok (.aload_n 0, 1) := by decide +kernel
theorem dX11_kindOf_1 : decode cX11_kindOf 1 = .ok (.iload_n 1, 1) := by decide +kernel
theorem dX11_kindOf_2 : decode cX11_kindOf 2 = .ok (.invokevirtual 69, 3) := by decide +kernel
theorem dX11_kindOf_5 : decode cX11_kindOf 5 = .ok (.istore_n 3, 1) := by decide +kernel
theorem dX11_kindOf_6 : decode cX11_kindOf 6 = .ok (.iload_n 3, 1) := by decide +kernel
theorem dX11_kindOf_7 : decode cX11_kindOf 7 = .ok (.invokestatic 77, 3) := by decide +kernel
theorem dX11_kindOf_10 : decode cX11_kindOf 10 = .ok (.ifCond .eq 19, 3) := by decide +kernel
theorem dX11_kindOf_13 : decode cX11_kindOf 13 = .ok (.iload_n 2, 1) := by decide +kernel
theorem dX11_kindOf_14 : decode cX11_kindOf 14 = .ok (.bipush 6, 2) := by decide +kernel
theorem dX11_kindOf_16 : decode cX11_kindOf 16 = .ok (.if_icmp .le 9, 3) := by decide +kernel
theorem dX11_kindOf_19 : decode cX11_kindOf 19 = .ok (.getstatic 58, 3) := by decide +kernel
theorem dX11_kindOf_22 : decode cX11_kindOf 22 = .ok (.goto 6, 3) := by decide +kernel
theorem dX11_kindOf_25 : decode cX11_kindOf 25 = .ok (.getstatic 80, 3) := by decide +kernel
theorem dX11_kindOf_28 : decode cX11_kindOf 28 = .ok (.areturn, 1) := by decide +kernel
theorem dX11_kindOf_29 : decode cX11_kindOf 29 = .ok (.iload_n 3, 1) := by decide +kernel
theorem dX11_kindOf_30 : decode cX11_kindOf 30 = .ok (.invokestatic 73, 3) := by decide +kernel
theorem dX11_kindOf_33 : decode cX11_kindOf 33 = .ok (.ifCond .eq 13, 3) := by decide +kernel
theorem dX11_kindOf_36 : decode cX11_kindOf 36 = .ok (.iload_n 2, 1) := by decide +kernel
theorem dX11_kindOf_37 : decode cX11_kindOf 37 = .ok (.bipush 10, 2) := by decide +kernel
theorem dX11_kindOf_39 : decode cX11_kindOf 39 = .ok (.if_icmp .le 7, 3) := by decide +kernel
theorem dX11_kindOf_42 : decode cX11_kindOf 42 = .ok (.getstatic 58, 3) := by decide +kernel
theorem dX11_kindOf_45 : decode cX11_kindOf 45 = .ok (.areturn, 1) := by decide +kernel
theorem dX11_kindOf_46 : decode cX11_kindOf 46 = .ok (.iconst 0, 1) := by decide +kernel
theorem dX11_kindOf_47 : decode cX11_kindOf 47 = .ok (.istore 4, 2) := by decide +kernel
theorem dX11_kindOf_49 : decode cX11_kindOf 49 = .ok (.iload 4, 2) := by decide +kernel
theorem dX11_kindOf_51 : decode cX11_kindOf 51 = .ok (.getstatic 83, 3) := by decide +kernel
theorem dX11_kindOf_54 : decode cX11_kindOf 54 = .ok (.arraylength, 1) := by decide +kernel
theorem dX11_kindOf_55 : decode cX11_kindOf 55 = .ok (.if_icmp .ge 34, 3) := by decide +kernel
theorem dX11_kindOf_58 : decode cX11_kindOf 58 = .ok (.aload_n 0, 1) := by decide +kernel
theorem dX11_kindOf_59 : decode cX11_kindOf 59 = .ok (.iload_n 1, 1) := by decide +kernel
theorem dX11_kindOf_60 : decode cX11_kindOf 60 = .ok (.iload_n 2, 1) := by decide +kernel
theorem dX11_kindOf_61 : decode cX11_kindOf 61 = .ok (.getstatic 83, 3) := by decide +kernel
theorem dX11_kindOf_64 : decode cX11_kindOf 64 = .ok (.iload 4, 2) := by decide +kernel
theorem dX11_kindOf_66 : decode cX11_kindOf 66 = .ok (.aaload, 1) := by decide +kernel
theorem dX11_kindOf_67 : decode cX11_kindOf 67 = .ok (.getfield 86, 3) := by decide +kernel
theorem dX11_kindOf_70 : decode cX11_kindOf 70 = .ok (.invokevirtual 90, 3) := by decide +kernel
theorem dX11_kindOf_73 : decode cX11_kindOf 73 = .ok (.ifCond .eq 10, 3) := by decide +kernel
theorem dX11_kindOf_76 : decode cX11_kindOf 76 = .ok (.getstatic 83, 3) := by decide +kernel
theorem dX11_kindOf_79 : decode cX11_kindOf 79 = .ok (.iload 4, 2) := by decide +kernel
theorem dX11_kindOf_81 : decode cX11_kindOf 81 = .ok (.aaload, 1) := by decide +kernel
theorem dX11_kindOf_82 : decode cX11_kindOf 82 = .ok (.areturn, 1) := by decide +kernel
theorem dX11_kindOf_83 : decode cX11_kindOf 83 = .ok (.iinc 4 1, 3) := by decide +kernel
theorem dX11_kindOf_86 : decode cX11_kindOf 86 = .ok (.goto (-37), 3) := by decide +kernel
theorem dX11_kindOf_89 : decode cX11_kindOf 89 = .ok (.iload_n 3, 1) := by decide +kernel
theorem dX11_kindOf_90 : decode cX11_kindOf 90 = .ok (.invokestatic 73, 3) := by decide +kernel
theorem dX11_kindOf_93 : decode cX11_kindOf 93 = .ok (.ifCond .eq 9, 3) := by decide +kernel
theorem dX11_kindOf_96 : decode cX11_kindOf 96 = .ok (.getstatic 94, 3) := by decide +kernel
theorem dX11_kindOf_99 : decode cX11_kindOf 99 = .ok (.goto 6, 3) := by decide +kernel
theorem dX11_kindOf_102 : decode cX11_kindOf 102 = .ok (.getstatic 58, 3) := by decide +kernel
theorem dX11_kindOf_105 : decode cX11_kindOf 105 = .ok (.areturn, 1) := by decide +kernel
theorem dX11_valueOf_0 : decode cX11_valueOf 0 = .ok (.aload_n 0, 1) := by decide +kernel
theorem dX11_valueOf_1 : decode cX11_valueOf 1 = .ok (.iload_n 1, 1) := by decide +kernel
theorem dX11_valueOf_2 : decode cX11_valueOf 2 = .ok (.invokevirtual 69, 3) := by decide +kernel
theorem dX11_valueOf_5 : decode cX11_valueOf 5 = .ok (.invokestatic 77, 3) := by decide +kernel
theorem dX11_valueOf_8 : decode cX11_valueOf 8 = .ok (.istore_n 3, 1) := by decide +kernel
theorem dX11_valueOf_9 : decode cX11_valueOf 9 = .ok (.lconst 0, 1) := by decide +kernel
theorem dX11_valueOf_10 : decode cX11_valueOf 10 = .ok (.lstore 4, 2) := by decide +kernel
theorem dX11_valueOf_12 : decode cX11_valueOf 12 = .ok (.iconst 0, 1) := by decide +kernel
theorem dX11_valueOf_13 : decode cX11_valueOf 13 = .ok (.istore 6, 2) := by decide +kernel
theorem dX11_valueOf_15 : decode cX11_valueOf 15 = .ok (.iload 6, 2) := by decide +kernel
theorem dX11_valueOf_17 : decode cX11_valueOf 17 = .ok (.iload_n 2, 1) := by decide +kernel
theorem dX11_valueOf_18 : decode cX11_valueOf 18 = .ok (.if_icmp .ge 54, 3) := by decide +kernel
theorem dX11_valueOf_21 : decode cX11_valueOf 21 = .ok (.aload_n 0, 1) := by decide +kernel
theorem dX11_valueOf_22 : decode cX11_valueOf 22 = .ok (.iload_n 1, 1) := by decide +kernel
theorem dX11_valueOf_23 : decode cX11_valueOf 23 = .ok (.iload 6, 2) := by decide +kernel
theorem dX11_valueOf_25 : decode cX11_valueOf 25 = .ok (.iadd, 1) := by decide +kernel
theorem dX11_valueOf_26 : decode cX11_valueOf 26 = .ok (.invokevirtual 69, 3) := by decide +kernel
theorem dX11_valueOf_29 : decode cX11_valueOf 29 = .ok (.istore 7, 2) := by decide +kernel
theorem dX11_valueOf_31 : decode cX11_valueOf 31 = .ok (.iload_n 3, 1) := by decide +kernel
theorem dX11_valueOf_32 : decode cX11_valueOf 32 = .ok (.ifCond .eq 19, 3) := by decide +kernel
theorem dX11_valueOf_35 : decode cX11_valueOf 35 = .ok (.lload 4, 2) := by decide +kernel
theorem dX11_valueOf_37 : decode cX11_valueOf 37 = .ok (.ldc2_w 97, 3) := by decide +kernel
theorem dX11_valueOf_40 : decode cX11_valueOf 40 = .ok (.lmul, 1) := by decide +kernel
theorem dX11_valueOf_41 : decode cX11_valueOf 41 = .ok (.iload 7, 2) := by decide +kernel
theorem dX11_valueOf_43 : decode cX11_valueOf 43 = .ok (.bipush 48, 2) := by decide +kernel
theorem dX11_valueOf_45 : decode cX11_valueOf 45 = .ok (.isub, 1) := by decide +kernel
theorem dX11_valueOf_46 : decode cX11_valueOf 46 = .ok (.i2l, 1) := by decide +kernel
theorem dX11_valueOf_47 : decode cX11_valueOf 47 = .ok (.ladd, 1) := by decide +kernel
theorem dX11_valueOf_48 : decode cX11_valueOf 48 = .ok (.goto 16, 3) := by decide +kernel
theorem dX11_valueOf_51 : decode cX11_valueOf 51 = .ok (.lload 4, 2) := by decide +kernel
theorem dX11_valueOf_53 : decode cX11_valueOf 53 = .ok (.ldc2_w 99, 3) := by decide +kernel
theorem dX11_valueOf_56 : decode cX11_valueOf 56 = .ok (.lmul, 1) := by decide +kernel
theorem dX11_valueOf_57 : decode cX11_valueOf 57 = .ok (.iload 7, 2) := by decide +kernel
theorem dX11_valueOf_59 : decode cX11_valueOf 59 = .ok (.invokestatic 101, 3) := by decide +kernel
theorem dX11_valueOf_62 : decode cX11_valueOf 62 = .ok (.i2l, 1) := by decide +kernel
theorem dX11_valueOf_63 : decode cX11_valueOf 63 = .ok (.ladd, 1) := by decide +kernel
theorem dX11_valueOf_64 : decode cX11_valueOf 64 = .ok (.lstore 4, 2) := by decide +kernel
theorem dX11_valueOf_66 : decode cX11_valueOf 66 = .ok (.iinc 6 1, 3) := by decide +kernel
theorem dX11_valueOf_69 : decode cX11_valueOf 69 = .ok (.goto (-54), 3) := by decide +kernel
theorem dX11_valueOf_72 : decode cX11_valueOf 72 = .ok (.lload 4, 2) := by decide +kernel
theorem dX11_valueOf_74 : decode cX11_valueOf 74 = .ok (.lreturn, 1) := by decide +kernel
theorem dX11_wordSign_0 : decode cX11_wordSign 0 = .ok (.iload_n 0, 1) := by decide +kernel
theorem dX11_wordSign_1 : decode cX11_wordSign 1 = .ok (.invokestatic 77, 3) := by decide +kernel
theorem dX11_wordSign_4 : decode cX11_wordSign 4 = .ok (.ifCond .eq 12, 3) := by decide +kernel
theorem dX11_wordSign_7 : decode cX11_wordSign 7 = .ok (.iload_n 0, 1) := by decide +kernel
theorem dX11_wordSign_8 : decode cX11_wordSign 8 = .ok (.bipush 48, 2) := by decide +kernel
theorem dX11_wordSign_10 : decode cX11_wordSign 10 = .ok (.isub, 1) := by decide +kernel
theorem dX11_wordSign_11 : decode cX11_wordSign 11 = .ok (.iconst 1, 1) := by decide +kernel
theorem dX11_wordSign_12 : decode cX11_wordSign 12 = .ok (.iadd, 1) := by decide +kernel
theorem dX11_wordSign_13 : decode cX11_wordSign 13 = .ok (.goto 10, 3) := by decide +kernel
theorem dX11_wordSign_16 : decode cX11_wordSign 16 = .ok (.iload_n 0, 1) := by decide +kernel
theorem dX11_wordSign_17 : decode cX11_wordSign 17 = .ok (.bipush 97, 2) := by decide +kernel
theorem dX11_wordSign_19 : decode cX11_wordSign 19 = .ok (.isub, 1) := by decide +kernel
theorem dX11_wordSign_20 : decode cX11_wordSign 20 = .ok (.bipush 11, 2) := by decide +kernel
theorem dX11_wordSign_22 : decode cX11_wordSign 22 = .ok (.iadd, 1) := by decide +kernel
theorem dX11_wordSign_23 : decode cX11_wordSign 23 = .ok (.ireturn, 1) := by decide +kernel
theorem dX11_isLetter_0 : decode cX11_isLetter 0 = .ok (.iload_n 0, 1) := by decide +kernel
theorem dX11_isLetter_1 : decode cX11_isLetter 1 = .ok (.bipush 97, 2) := by decide +kernel
theorem dX11_isLetter_3 : decode cX11_isLetter 3 = .ok (.if_icmp .lt 13, 3) := by decide +kernel
theorem dX11_isLetter_6 : decode cX11_isLetter 6 = .ok (.iload_n 0, 1) := by decide +kernel
theorem dX11_isLetter_7 : decode cX11_isLetter 7 = .ok (.bipush 122, 2) := by decide +kernel
theorem dX11_isLetter_9 : decode cX11_isLetter 9 = .ok (.if_icmp .gt 7, 3) := by decide +kernel
theorem dX11_isLetter_12 : decode cX11_isLetter 12 = .ok (.iconst 1, 1) := by decide +kernel
theorem dX11_isLetter_13 : decode cX11_isLetter 13 = .ok (.goto 4, 3) := by decide +kernel
theorem dX11_isLetter_16 : decode cX11_isLetter 16 = .ok (.iconst 0, 1) := by decide +kernel
theorem dX11_isLetter_17 : decode cX11_isLetter 17 = .ok (.ireturn, 1) := by decide +kernel
theorem dX11_isDigit_0 : decode cX11_isDigit 0 = .ok (.iload_n 0, 1) := by decide +kernel
theorem dX11_isDigit_1 : decode cX11_isDigit 1 = .ok (.bipush 48, 2) := by decide +kernel
theorem dX11_isDigit_3 : decode cX11_isDigit 3 = .ok (.if_icmp .lt 13, 3) := by decide +kernel
theorem dX11_isDigit_6 : decode cX11_isDigit 6 = .ok (.iload_n 0, 1) := by decide +kernel
theorem dX11_isDigit_7 : decode cX11_isDigit 7 = .ok (.bipush 57, 2) := by decide +kernel
theorem dX11_isDigit_9 : decode cX11_isDigit 9 = .ok (.if_icmp .gt 7, 3) := by decide +kernel
theorem dX11_isDigit_12 : decode cX11_isDigit 12 = .ok (.iconst 1, 1) := by decide +kernel
theorem dX11_isDigit_13 : decode cX11_isDigit 13 = .ok (.goto 4, 3) := by decide +kernel
theorem dX11_isDigit_16 : decode cX11_isDigit 16 = .ok (.iconst 0, 1) := by decide +kernel
theorem dX11_isDigit_17 : decode cX11_isDigit 17 = .ok (.ireturn, 1) := by decide +kernel
theorem dX11_has_0 : decode cX11_has 0 = .ok (.iload_n 1, 1) := by decide +kernel
theorem dX11_has_1 : decode cX11_has 1 = .ok (.ifCond .lt 22, 3) := by decide +kernel
theorem dX11_has_4 : decode cX11_has 4 = .ok (.iload_n 1, 1) := by decide +kernel
theorem dX11_has_5 : decode cX11_has 5 = .ok (.aload_n 0, 1) := by decide +kernel
theorem dX11_has_6 : decode cX11_has 6 = .ok (.getfield 29, 3) := by decide +kernel
theorem dX11_has_9 : decode cX11_has 9 = .ok (.if_icmp .ge 14, 3) := by decide +kernel
theorem dX11_has_12 : decode cX11_has 12 = .ok (.iload_n 1, 1) := by decide +kernel
theorem dX11_has_13 : decode cX11_has 13 = .ok (.sipush 400, 3) := by decide +kernel
theorem dX11_has_16 : decode cX11_has 16 = .ok (.if_icmp .gt 7, 3) := by decide +kernel
theorem dX11_has_19 : decode cX11_has 19 = .ok (.iconst 1, 1) := by decide +kernel
theorem dX11_has_20 : decode cX11_has 20 = .ok (.goto 4, 3) := by decide +kernel
theorem dX11_has_23 : decode cX11_has 23 = .ok (.iconst 0, 1) := by decide +kernel
theorem dX11_has_24 : decode cX11_has 24 = .ok (.ireturn, 1) := by decide +kernel
theorem dX11_kindAt_0 : decode cX11_kindAt 0 = .ok (.aload_n 0, 1) := by decide +kernel
theorem dX11_kindAt_1 : decode cX11_kindAt 1 = .ok (.iload_n 1, 1) := by decide +kernel
theorem dX11_kindAt_2 : decode cX11_kindAt 2 = .ok (.invokevirtual 104, 3) := by decide +kernel
theorem dX11_kindAt_5 : decode cX11_kindAt 5 = .ok (.ifCond .eq 12, 3) := by decide +kernel
theorem dX11_kindAt_8 : decode cX11_kindAt 8 = .ok (.aload_n 0, 1) := by decide +kernel
theorem dX11_kindAt_9 : decode cX11_kindAt 9 = .ok (.getfield 11, 3) := by decide +kernel
theorem dX11_kindAt_12 : decode cX11_kindAt 12 = .ok (.iload_n 1, 1) := by decide +kernel
theorem dX11_kindAt_13 : decode cX11_kindAt 13 = .ok (.aaload, 1) := by decide +kernel
theorem dX11_kindAt_14 : decode cX11_kindAt 14 = .ok (.goto 6, 3) := by decide +kernel
theorem dX11_kindAt_17 : decode cX11_kindAt 17 = .ok (.getstatic 25, 3) := by decide +kernel
theorem dX11_kindAt_20 : decode cX11_kindAt 20 = .ok (.areturn, 1) := by decide +kernel
theorem dX11_startAt_0 : decode cX11_startAt 0 = .ok (.aload_n 0, 1) := by decide +kernel
theorem dX11_startAt_1 : decode cX11_startAt 1 = .ok (.iload_n 1, 1) := by decide +kernel
theorem dX11_startAt_2 : decode cX11_startAt 2 = .ok (.invokevirtual 104, 3) := by decide +kernel
theorem dX11_startAt_5 : decode cX11_startAt 5 = .ok (.ifCond .eq 12, 3) := by decide +kernel
theorem dX11_startAt_8 : decode cX11_startAt 8 = .ok (.aload_n 0, 1) := by decide +kernel
theorem dX11_startAt_9 : decode cX11_startAt 9 = .ok (.getfield 17, 3) := by decide +kernel
theorem dX11_startAt_12 : decode cX11_startAt 12 = .ok (.iload_n 1, 1) := by decide +kernel
theorem dX11_startAt_13 : decode cX11_startAt 13 = .ok (.iaload, 1) := by decide +kernel
theorem dX11_startAt_14 : decode cX11_startAt 14 = .ok (.goto 4, 3) := by decide +kernel
theorem dX11_startAt_17 : decode cX11_startAt 17 = .ok (.iconst 0, 1) := by decide +kernel
theorem dX11_startAt_18 : decode cX11_startAt 18 = .ok (.ireturn, 1) := by decide +kernel
theorem dX11_valueAt_0 : decode cX11_valueAt 0 = .ok (.aload_n 0, 1) := by decide +kernel
theorem dX11_valueAt_1 : decode cX11_valueAt 1 = .ok (.iload_n 1, 1) := by decide +kernel
theorem dX11_valueAt_2 : decode cX11_valueAt 2 = .ok (.invokevirtual 104, 3) := by decide +kernel
theorem dX11_valueAt_5 : decode cX11_valueAt 5 = .ok (.ifCond .eq 12, 3) := by decide +kernel
theorem dX11_valueAt_8 : decode cX11_valueAt 8 = .ok (.aload_n 0, 1) := by decide +kernel
theorem dX11_valueAt_9 : decode cX11_valueAt 9 = .ok (.getfield 21, 3) := by decide +kernel
theorem dX11_valueAt_12 : decode cX11_valueAt 12 = .ok (.iload_n 1, 1) := by decide +kernel
theorem dX11_valueAt_13 : decode cX11_valueAt 13 = .ok (.laload, 1) := by decide +kernel
theorem dX11_valueAt_14 : decode cX11_valueAt 14 = .ok (.goto 4, 3) := by decide +kernel
theorem dX11_valueAt_17 : decode cX11_valueAt 17 = .ok (.lconst 0, 1) := by decide +kernel
theorem dX11_valueAt_18 : decode cX11_valueAt 18 = .ok (.lreturn, 1) := by decide +kernel
theorem dX11_setValue_0 : decode cX11_setValue 0 = .ok (.aload_n 0, 1) := by decide +kernel
theorem dX11_setValue_1 : decode cX11_setValue 1 = .ok (.iload_n 1, 1) := by decide +kernel
theorem dX11_setValue_2 : decode cX11_setValue 2 = .ok (.invokevirtual 104, 3) := by decide +kernel
theorem dX11_setValue_5 : decode cX11_setValue 5 = .ok (.ifCond .eq 11, 3) := by decide +kernel
theorem dX11_setValue_8 : decode cX11_setValue 8 = .ok (.aload_n 0, 1) := by decide +kernel
theorem dX11_setValue_9 : decode cX11_setValue 9 = .ok (.getfield 21, 3) := by decide +kernel
theorem dX11_setValue_12 : decode cX11_setValue 12 = .ok (.iload_n 1, 1) := by decide +kernel
theorem dX11_setValue_13 : decode cX11_setValue 13 = .ok (.iload_n 2, 1) := by decide +kernel
theorem dX11_setValue_14 : decode cX11_setValue 14 = .ok (.i2l, 1) := by decide +kernel
theorem dX11_setValue_15 : decode cX11_setValue 15 = .ok (.lastore, 1) := by decide +kernel
theorem dX11_setValue_16 : decode cX11_setValue 16 = .ok (.return_, 1) := by decide +kernel
theorem dX11_next_0 : decode cX11_next 0 = .ok (.aload_n 0, 1) := by decide +kernel
theorem dX11_next_1 : decode cX11_next 1 = .ok (.getfield 33, 3) := by decide +kernel
theorem dX11_next_4 : decode cX11_next 4 = .ok (.aload_n 0, 1) := by decide +kernel
theorem dX11_next_5 : decode cX11_next 5 = .ok (.getfield 29, 3) := by decide +kernel
theorem dX11_next_8 : decode cX11_next 8 = .ok (.if_icmp .ge 15, 3) := by decide +kernel
theorem dX11_next_11 : decode cX11_next 11 = .ok (.aload_n 0, 1) := by decide +kernel
theorem dX11_next_12 : decode cX11_next 12 = .ok (.getfield 11, 3) := by decide +kernel
theorem dX11_next_15 : decode cX11_next 15 = .ok (.aload_n 0, 1) := by decide +kernel
theorem dX11_next_16 : decode cX11_next 16 = .ok (.getfield 33, 3) := by decide +kernel
theorem dX11_next_19 : decode cX11_next 19 = .ok (.aaload, 1) := by decide +kernel
theorem dX11_next_20 : decode cX11_next 20 = .ok (.goto 6, 3) := by decide +kernel
theorem dX11_next_23 : decode cX11_next 23 = .ok (.getstatic 25, 3) := by decide +kernel
theorem dX11_next_26 : decode cX11_next 26 = .ok (.areturn, 1) := by decide +kernel
theorem dX11_take_0 : decode cX11_take 0 = .ok (.aload_n 0, 1) := by decide +kernel
theorem dX11_take_1 : decode cX11_take 1 = .ok (.getfield 33, 3) := by decide +kernel
theorem dX11_take_4 : decode cX11_take 4 = .ok (.aload_n 0, 1) := by decide +kernel
theorem dX11_take_5 : decode cX11_take 5 = .ok (.getfield 29, 3) := by decide +kernel
theorem dX11_take_8 : decode cX11_take 8 = .ok (.if_icmp .ge 16, 3) := by decide +kernel
theorem dX11_take_11 : decode cX11_take 11 = .ok (.aload_n 0, 1) := by decide +kernel
theorem dX11_take_12 : decode cX11_take 12 = .ok (.getfield 11, 3) := by decide +kernel
theorem dX11_take_15 : decode cX11_take 15 = .ok (.aload_n 0, 1) := by decide +kernel
theorem dX11_take_16 : decode cX11_take 16 = .ok (.getfield 33, 3) := by decide +kernel
theorem dX11_take_19 : decode cX11_take 19 = .ok (.aaload, 1) := by decide +kernel
theorem dX11_take_20 : decode cX11_take 20 = .ok (.aload_n 1, 1) := by decide +kernel
theorem dX11_take_21 : decode cX11_take 21 = .ok (.if_acmp .eq 5, 3) := by decide +kernel
theorem dX11_take_24 : decode cX11_take 24 = .ok (.iconst 0, 1) := by decide +kernel
theorem dX11_take_25 : decode cX11_take 25 = .ok (.ireturn, 1) := by decide +kernel
theorem dX11_take_26 : decode cX11_take 26 = .ok (.aload_n 0, 1) := by decide +kernel
theorem dX11_take_27 : decode cX11_take 27 = .ok (.dup, 1) := by decide +kernel
theorem dX11_take_28 : decode cX11_take 28 = .ok (.getfield 33, 3) := by decide +kernel
theorem dX11_take_31 : decode cX11_take 31 = .ok (.iconst 1, 1) := by decide +kernel
theorem dX11_take_32 : decode cX11_take 32 = .ok (.iadd, 1) := by decide +kernel
theorem dX11_take_33 : decode cX11_take 33 = .ok (.putfield 33, 3) := by decide +kernel
theorem dX11_take_36 : decode cX11_take 36 = .ok (.iconst 1, 1) := by decide +kernel
theorem dX11_take_37 : decode cX11_take 37 = .ok (.ireturn, 1) := by decide +kernel
theorem dX11_takeNumber_0 : decode cX11_takeNumber 0 = .ok (.aload_n 0, 1) := by decide +kernel
theorem dX11_takeNumber_1 : decode cX11_takeNumber 1 = .ok (.aload_n 1, 1) := by decide +kernel
theorem dX11_takeNumber_2 : decode cX11_takeNumber 2 = .ok (.invokevirtual 107, 3) := by decide +kernel
theorem dX11_takeNumber_5 : decode cX11_takeNumber 5 = .ok (.ifCond .eq 17, 3) := by decide +kernel
theorem dX11_takeNumber_8 : decode cX11_takeNumber 8 = .ok (.aload_n 0, 1) := by decide +kernel
theorem dX11_takeNumber_9 : decode cX11_takeNumber 9 = .ok (.getstatic 80, 3) := by decide +kernel
theorem dX11_takeNumber_12 : decode cX11_takeNumber 12 = .ok (.invokevirtual 107, 3) := by decide +kernel
theorem dX11_takeNumber_15 : decode cX11_takeNumber 15 = .ok (.ifCond .eq 7, 3) := by decide +kernel
theorem dX11_takeNumber_18 : decode cX11_takeNumber 18 = .ok (.iconst 1, 1) := by decide +kernel
theorem dX11_takeNumber_19 : decode cX11_takeNumber 19 = .ok (.goto 4, 3) := by decide +kernel
theorem dX11_takeNumber_22 : decode cX11_takeNumber 22 = .ok (.iconst 0, 1) := by decide +kernel
theorem dX11_takeNumber_23 : decode cX11_takeNumber 23 = .ok (.ireturn, 1) := by decide +kernel
theorem dX11_failUnless_0 : decode cX11_failUnless 0 = .ok (.iload_n 1, 1) := by decide +kernel
theorem dX11_failUnless_1 : decode cX11_failUnless 1 = .ok (.ifCond .ne 20, 3) := by decide +kernel
theorem dX11_failUnless_4 : decode cX11_failUnless 4 = .ok (.aload_n 0, 1) := by decide +kernel
theorem dX11_failUnless_5 : decode cX11_failUnless 5 = .ok (.getfield 36, 3) := by decide +kernel
theorem dX11_failUnless_8 : decode cX11_failUnless 8 = .ok (.ifCond .ne 13, 3) := by decide +kernel
theorem dX11_failUnless_11 : decode cX11_failUnless 11 = .ok (.aload_n 0, 1) := by decide +kernel
theorem dX11_failUnless_12 : decode cX11_failUnless 12 = .ok (.iload_n 2, 1) := by decide +kernel
theorem dX11_failUnless_13 : decode cX11_failUnless 13 = .ok (.putfield 36, 3) := by decide +kernel
theorem dX11_failUnless_16 : decode cX11_failUnless 16 = .ok (.aload_n 0, 1) := by decide +kernel
theorem dX11_failUnless_17 : decode cX11_failUnless 17 = .ok (.iload_n 3, 1) := by decide +kernel
theorem dX11_failUnless_18 : decode cX11_failUnless 18 = .ok (.putfield 39, 3) := by decide +kernel
theorem dX11_failUnless_21 : decode cX11_failUnless 21 = .ok (.return_, 1) := by decide +kernel
theorem dX12_init_0 : decode cX12_init 0 = .ok (.aload_n 0, 1) := by decide +kernel
theorem dX12_init_1 : decode cX12_init 1 = .ok (.invokespecial 1, 3) := by decide +kernel
theorem dX12_init_4 : decode cX12_init 4 = .ok (.aload_n 0, 1) := by decide +kernel
theorem dX12_init_5 : decode cX12_init 5 = .ok (.new 7, 3) := by decide +kernel
theorem dX12_init_8 : decode cX12_init 8 = .ok (.dup, 1) := by decide +kernel
theorem dX12_init_9 : decode cX12_init 9 = .ok (.invokespecial 9, 3) := by decide +kernel
theorem dX12_init_12 : decode cX12_init 12 = .ok (.putfield 10, 3) := by decide +kernel
theorem dX12_init_15 : decode cX12_init 15 = .ok (.aload_n 0, 1) := by decide +kernel
theorem dX12_init_16 : decode cX12_init 16 = .ok (.new 16, 3) := by decide +kernel
theorem dX12_init_19 : decode cX12_init 19 = .ok (.dup, 1) := by decide +kernel
theorem dX12_init_20 : decode cX12_init 20 = .ok (.invokespecial 18, 3) := by decide +kernel
theorem dX12_init_23 : decode cX12_init 23 = .ok (.putfield 19, 3) := by decide +kernel
theorem dX12_init_26 : decode cX12_init 26 = .ok (.aload_n 0, 1) := by decide +kernel
theorem dX12_init_27 : decode cX12_init 27 = .ok (.new 23, 3) := by decide +kernel
theorem dX12_init_30 : decode cX12_init 30 = .ok (.dup, 1) := by decide +kernel
theorem dX12_init_31 : decode cX12_init 31 = .ok (.invokespecial 25, 3) := by decide +kernel
theorem dX12_init_34 : decode cX12_init 34 = .ok (.putfield 26, 3) := by decide +kernel
theorem dX12_init_37 : decode cX12_init 37 = .ok (.aload_n 0, 1) := by decide +kernel
theorem dX12_init_38 : decode cX12_init 38 = .ok (.new 23, 3) := by decide +kernel
theorem dX12_init_41 : decode cX12_init 41 = .ok (.dup, 1) := by decide +kernel
theorem dX12_init_42 : decode cX12_init 42 = .ok (.invokespecial 25, 3) := by decide +kernel
theorem dX12_init_45 : decode cX12_init 45 = .ok (.putfield 30, 3) := by decide +kernel
theorem dX12_init_48 : decode cX12_init 48 = .ok (.aload_n 0, 1) := by decide +kernel
theorem dX12_init_49 : decode cX12_init 49 = .ok (.new 33, 3) := by decide +kernel
theorem dX12_init_52 : decode cX12_init 52 = .ok (.dup, 1) := by decide +kernel
theorem dX12_init_53 : decode cX12_init 53 = .ok (.invokespecial 35, 3) := by decide +kernel
theorem dX12_init_56 : decode cX12_init 56 = .ok (.putfield 36, 3) := by decide +kernel
theorem dX12_init_59 : decode cX12_init 59 = .ok (.aload_n 0, 1) := by decide +kernel
theorem dX12_init_60 : decode cX12_init 60 = .ok (.iconst (-1), 1) := by decide +kernel
theorem dX12_init_61 : decode cX12_init 61 = .ok (.putfield 40, 3) := by decide +kernel
theorem dX12_init_64 : decode cX12_init 64 = .ok (.return_, 1) := by decide +kernel
theorem dX12_feed_0 : decode cX12_feed 0 = .ok (.aload_n 0, 1) := by decide +kernel
theorem dX12_feed_1 : decode cX12_feed 1 = .ok (.getfield 10, 3) := by decide +kernel
theorem dX12_feed_4 : decode cX12_feed 4 = .ok (.getfield 44, 3) := by decide +kernel
theorem dX12_feed_7 : decode cX12_feed 7 = .ok (.bipush 20, 2) := by decide +kernel
theorem dX12_feed_9 : decode cX12_feed 9 = .ok (.iadd, 1) := by decide +kernel
theorem dX12_feed_10 : decode cX12_feed 10 = .ok (.sipush 2000, 3) := by decide +kernel
theorem dX12_feed_13 : decode cX12_feed 13 = .ok (.if_icmp .le 13, 3) := by decide +kernel
theorem dX12_feed_16 : decode cX12_feed 16 = .ok (.new 47, 3) := by decide +kernel
theorem dX12_feed_19 : decode cX12_feed 19 = .ok (.dup, 1) := by decide +kernel
theorem dX12_feed_20 : decode cX12_feed 20 = .ok (.ldc 49, 2) := by decide +kernel
theorem dX12_feed_22 : decode cX12_feed 22 = .ok (.invokespecial 51, 3) := by decide +kernel
theorem dX12_feed_25 : decode cX12_feed 25 = .ok (.athrow, 1) := by decide +kernel
theorem dX12_feed_26 : decode cX12_feed 26 = .ok (.aload_n 0, 1) := by decide +kernel
theorem dX12_feed_27 : decode cX12_feed 27 = .ok (.getfield 10, 3) := by decide +kernel
theorem dX12_feed_30 : decode cX12_feed 30 = .ok (.iload_n 1, 1) := by decide +kernel
theorem dX12_feed_31 : decode cX12_feed 31 = .ok (.invokevirtual 54, 3) := by decide +kernel
theorem dX12_feed_34 : decode cX12_feed 34 = .ok (.aload_n 0, 1) := by decide +kernel
theorem dX12_feed_35 : decode cX12_feed 35 = .ok (.getfield 10, 3) := by decide +kernel
theorem dX12_feed_38 : decode cX12_feed 38 = .ok (.iload_n 2, 1) := by decide +kernel
theorem dX12_feed_39 : decode cX12_feed 39 = .ok (.invokevirtual 54, 3) := by decide +kernel
theorem dX12_feed_42 : decode cX12_feed 42 = .ok (.aload_n 0, 1) := by decide +kernel
theorem dX12_feed_43 : decode cX12_feed 43 = .ok (.getfield 10, 3) := by decide +kernel
theorem dX12_feed_46 : decode cX12_feed 46 = .ok (.iload_n 3, 1) := by decide +kernel
theorem dX12_feed_47 : decode cX12_feed 47 = .ok (.invokevirtual 54, 3) := by decide +kernel
theorem dX12_feed_50 : decode cX12_feed 50 = .ok (.aload_n 0, 1) := by decide +kernel
theorem dX12_feed_51 : decode cX12_feed 51 = .ok (.getfield 10, 3) := by decide +kernel
theorem dX12_feed_54 : decode cX12_feed 54 = .ok (.iload 4, 2) := by decide +kernel
theorem dX12_feed_56 : decode cX12_feed 56 = .ok (.invokevirtual 54, 3) := by decide +kernel
theorem dX12_feed_59 : decode cX12_feed 59 = .ok (.aload_n 0, 1) := by decide +kernel
theorem dX12_feed_60 : decode cX12_feed 60 = .ok (.getfield 10, 3) := by decide +kernel
theorem dX12_feed_63 : decode cX12_feed 63 = .ok (.iload 5, 2) := by decide +kernel
theorem dX12_feed_65 : decode cX12_feed 65 = .ok (.invokevirtual 54, 3) := by decide +kernel
theorem dX12_feed_68 : decode cX12_feed 68 = .ok (.aload_n 0, 1) := by decide +kernel
theorem dX12_feed_69 : decode cX12_feed 69 = .ok (.getfield 10, 3) := by decide +kernel
theorem dX12_feed_72 : decode cX12_feed 72 = .ok (.getfield 44, 3) := by decide +kernel
theorem dX12_feed_75 : decode cX12_feed 75 = .ok (.ireturn, 1) := by decide +kernel
theorem dX12_trim_0 : decode cX12_trim 0 = .ok (.iload_n 1, 1) := by decide +kernel
theorem dX12_trim_1 : decode cX12_trim 1 = .ok (.ifCond .lt 14, 3) := by decide +kernel
theorem dX12_trim_4 : decode cX12_trim 4 = .ok (.iload_n 1, 1) := by decide +kernel
theorem dX12_trim_5 : decode cX12_trim 5 = .ok (.aload_n 0, 1) := by decide +kernel
theorem dX12_trim_6 : decode cX12_trim 6 = .ok (.getfield 10, 3) := by decide +kernel
theorem dX12_trim_9 : decode cX12_trim 9 = .ok (.getfield 44, 3) := by decide +kernel
theorem dX12_trim_12 : decode cX12_trim 12 = .ok (.if_icmp .le 13, 3) := by decide +kernel
theorem dX12_trim_15 : decode cX12_trim 15 = .ok (.new 58, 3) := by decide +kernel
theorem dX12_trim_18 : decode cX12_trim 18 = .ok (.dup, 1) := by decide +kernel
theorem dX12_trim_19 : decode cX12_trim 19 = .ok (.ldc 60, 2) := by decide +kernel
theorem dX12_trim_21 : decode cX12_trim 21 = .ok (.invokespecial 62, 3) := by decide +kernel
theorem dX12_trim_24 : decode cX12_trim 24 = .ok (.athrow, 1) := by decide +kernel
theorem dX12_trim_25 : decode cX12_trim 25 = .ok (.aload_n 0, 1) := by decide +kernel
theorem dX12_trim_26 : decode cX12_trim 26 = .ok (.getfield 10, 3) := by decide +kernel
theorem dX12_trim_29 : decode cX12_trim 29 = .ok (.iload_n 1, 1) := by decide +kernel
theorem dX12_trim_30 : decode cX12_trim 30 = .ok (.putfield 44, 3) := by decide +kernel
theorem dX12_trim_33 : decode cX12_trim 33 = .ok (.iload_n 1, 1) := by decide +kernel
theorem dX12_trim_34 : decode cX12_trim 34 = .ok (.ireturn, 1) := by decide +kernel
theorem dX12_teach_0 : decode cX12_teach 0 = .ok (.aload_n 0, 1) := by decide +kernel
theorem dX12_teach_1 : decode cX12_teach 1 = .ok (.getfield 19, 3) := by decide +kernel
theorem dX12_teach_4 : decode cX12_teach 4 = .ok (.aload_n 0, 1) := by decide +kernel
theorem dX12_teach_5 : decode cX12_teach 5 = .ok (.getfield 10, 3) := by decide +kernel
theorem dX12_teach_8 : decode cX12_teach 8 = .ok (.invokevirtual 63, 3) := by decide +kernel
theorem dX12_teach_11 : decode cX12_teach 11 = .ok (.aload_n 0, 1) := by decide +kernel
theorem dX12_teach_12 : decode cX12_teach 12 = .ok (.getfield 10, 3) := by decide +kernel
theorem dX12_teach_15 : decode cX12_teach 15 = .ok (.iconst 0, 1) := by decide +kernel
theorem dX12_teach_16 : decode cX12_teach 16 = .ok (.putfield 44, 3) := by decide +kernel
theorem dX12_teach_19 : decode cX12_teach 19 = .ok (.aload_n 0, 1) := by decide +kernel
theorem dX12_teach_20 : decode cX12_teach 20 = .ok (.getfield 36, 3) := by decide +kernel
theorem dX12_teach_23 : decode cX12_teach 23 = .ok (.invokevirtual 67, 3) := by decide +kernel
theorem dX12_teach_26 : decode cX12_teach 26 = .ok (.aload_n 0, 1) := by decide +kernel
theorem dX12_teach_27 : decode cX12_teach 27 = .ok (.getfield 19, 3) := by decide +kernel
theorem dX12_teach_30 : decode cX12_teach 30 = .ok (.aload_n 0, 1) := by decide +kernel
theorem dX12_teach_31 : decode cX12_teach 31 = .ok (.getfield 36, 3) := by decide +kernel
theorem dX12_teach_34 : decode cX12_teach 34 = .ok (.getfield 70, 3) := by decide +kernel
theorem dX12_teach_37 : decode cX12_teach 37 = .ok (.invokestatic 74, 3) := by decide +kernel
theorem dX12_teach_40 : decode cX12_teach 40 = .ok (.aload_n 0, 1) := by decide +kernel
theorem dX12_teach_41 : decode cX12_teach 41 = .ok (.getfield 19, 3) := by decide +kernel
theorem dX12_teach_44 : decode cX12_teach 44 = .ok (.getfield 80, 3) := by decide +kernel
theorem dX12_teach_47 : decode cX12_teach 47 = .ok (.ifCond .ne 14, 3) := by decide +kernel
theorem dX12_teach_50 : decode cX12_teach 50 = .ok (.aload_n 0, 1) := by decide +kernel
theorem dX12_teach_51 : decode cX12_teach 51 = .ok (.getfield 19, 3) := by decide +kernel
theorem dX12_teach_54 : decode cX12_teach 54 = .ok (.aload_n 0, 1) := by decide +kernel
theorem dX12_teach_55 : decode cX12_teach 55 = .ok (.getfield 36, 3) := by decide +kernel
theorem dX12_teach_58 : decode cX12_teach 58 = .ok (.invokestatic 83, 3) := by decide +kernel
theorem dX12_teach_61 : decode cX12_teach 61 = .ok (.aload_n 0, 1) := by decide +kernel
theorem dX12_teach_62 : decode cX12_teach 62 = .ok (.getfield 19, 3) := by decide +kernel
theorem dX12_teach_65 : decode cX12_teach 65 = .ok (.getfield 80, 3) := by decide +kernel
theorem dX12_teach_68 : decode cX12_teach 68 = .ok (.ifCond .eq 29, 3) := by decide +kernel
theorem dX12_teach_71 : decode cX12_teach 71 = .ok (.aload_n 0, 1) := by decide +kernel
theorem dX12_teach_72 : decode cX12_teach 72 = .ok (.aload_n 0, 1) := by decide +kernel
theorem dX12_teach_73 : decode cX12_teach 73 = .ok (.getfield 19, 3) := by decide +kernel
theorem dX12_teach_76 : decode cX12_teach 76 = .ok (.aload_n 0, 1) := by decide +kernel
theorem dX12_teach_77 : decode cX12_teach 77 = .ok (.getfield 19, 3) := by decide +kernel
theorem dX12_teach_80 : decode cX12_teach 80 = .ok (.getfield 89, 3) := by decide +kernel
theorem dX12_teach_83 : decode cX12_teach 83 = .ok (.invokevirtual 92, 3) := by decide +kernel
theorem dX12_teach_86 : decode cX12_teach 86 = .ok (.putfield 40, 3) := by decide +kernel
theorem dX12_teach_89 : decode cX12_teach 89 = .ok (.aload_n 0, 1) := by decide +kernel
theorem dX12_teach_90 : decode cX12_teach 90 = .ok (.getfield 19, 3) := by decide +kernel
theorem dX12_teach_93 : decode cX12_teach 93 = .ok (.getfield 80, 3) := by decide +kernel
theorem dX12_teach_96 : decode cX12_teach 96 = .ok (.ireturn, 1) := by decide +kernel
theorem dX12_teach_97 : decode cX12_teach 97 = .ok (.aload_n 0, 1) := by decide +kernel
theorem dX12_teach_98 : decode cX12_teach 98 = .ok (.getfield 36, 3) := by decide +kernel
theorem dX12_teach_101 : decode cX12_teach 101 = .ok (.getfield 70, 3) := by decide +kernel
theorem dX12_teach_104 : decode cX12_teach 104 = .ok (.aload_n 0, 1) := by decide +kernel
theorem dX12_teach_105 : decode cX12_teach 105 = .ok (.getfield 19, 3) := by decide +kernel
theorem dX12_teach_108 : decode cX12_teach 108 = .ok (.invokevirtual 96, 3) := by decide +kernel
theorem dX12_teach_111 : decode cX12_teach 111 = .ok (.aload_n 0, 1) := by decide +kernel
theorem dX12_teach_112 : decode cX12_teach 112 = .ok (.getfield 26, 3) := by decide +kernel
theorem dX12_teach_115 : decode cX12_teach 115 = .ok (.getfield 102, 3) := by decide +kernel
theorem dX12_teach_118 : decode cX12_teach 118 = .ok (.astore_n 1, 1) := by decide +kernel
theorem dX12_teach_119 : decode cX12_teach 119 = .ok (.aload_n 0, 1) := by decide +kernel
theorem dX12_teach_120 : decode cX12_teach 120 = .ok (.getfield 26, 3) := by decide +kernel
theorem dX12_teach_123 : decode cX12_teach 123 = .ok (.aload_n 0, 1) := by decide +kernel
theorem dX12_teach_124 : decode cX12_teach 124 = .ok (.getfield 36, 3) := by decide +kernel
theorem dX12_teach_127 : decode cX12_teach 127 = .ok (.invokevirtual 105, 3) := by decide +kernel
theorem dX12_teach_130 : decode cX12_teach 130 = .ok (.aload_n 0, 1) := by decide +kernel
theorem dX12_teach_131 : decode cX12_teach 131 = .ok (.aload_n 1, 1) := by decide +kernel
theorem dX12_teach_132 : decode cX12_teach 132 = .ok (.putfield 36, 3) := by decide +kernel
theorem dX12_teach_135 : decode cX12_teach 135 = .ok (.aload_n 0, 1) := by decide +kernel
theorem dX12_teach_136 : decode cX12_teach 136 = .ok (.iconst (-1), 1) := by decide +kernel
theorem dX12_teach_137 : decode cX12_teach 137 = .ok (.putfield 40, 3) := by decide +kernel
theorem dX12_teach_140 : decode cX12_teach 140 = .ok (.iconst 0, 1) := by decide +kernel
theorem dX12_teach_141 : decode cX12_teach 141 = .ok (.ireturn, 1) := by decide +kernel
theorem dX12_fronts_0 : decode cX12_fronts 0 = .ok (.aload_n 0, 1) := by decide +kernel
theorem dX12_fronts_1 : decode cX12_fronts 1 = .ok (.getfield 26, 3) := by decide +kernel
theorem dX12_fronts_4 : decode cX12_fronts 4 = .ok (.getfield 102, 3) := by decide +kernel
theorem dX12_fronts_7 : decode cX12_fronts 7 = .ok (.getfield 109, 3) := by decide +kernel
theorem dX12_fronts_10 : decode cX12_fronts 10 = .ok (.getfield 113, 3) := by decide +kernel
theorem dX12_fronts_13 : decode cX12_fronts 13 = .ok (.ireturn, 1) := by decide +kernel
theorem dX12_guests_0 : decode cX12_guests 0 = .ok (.aload_n 0, 1) := by decide +kernel
theorem dX12_guests_1 : decode cX12_guests 1 = .ok (.getfield 26, 3) := by decide +kernel
theorem dX12_guests_4 : decode cX12_guests 4 = .ok (.getfield 102, 3) := by decide +kernel
theorem dX12_guests_7 : decode cX12_guests 7 = .ok (.getfield 118, 3) := by decide +kernel
theorem dX12_guests_10 : decode cX12_guests 10 = .ok (.getfield 122, 3) := by decide +kernel
theorem dX12_guests_13 : decode cX12_guests 13 = .ok (.ireturn, 1) := by decide +kernel
theorem dX12_hour_0 : decode cX12_hour 0 = .ok (.aload_n 0, 1) := by decide +kernel
theorem dX12_hour_1 : decode cX12_hour 1 = .ok (.getfield 26, 3) := by decide +kernel
theorem dX12_hour_4 : decode cX12_hour 4 = .ok (.getfield 125, 3) := by decide +kernel
theorem dX12_hour_7 : decode cX12_hour 7 = .ok (.ireturn, 1) := by decide +kernel
theorem dX12_warmth_0 : decode cX12_warmth 0 = .ok (.aload_n 0, 1) := by decide +kernel
theorem dX12_warmth_1 : decode cX12_warmth 1 = .ok (.getfield 26, 3) := by decide +kernel
theorem dX12_warmth_4 : decode cX12_warmth 4 = .ok (.getfield 128, 3) := by decide +kernel
theorem dX12_warmth_7 : decode cX12_warmth 7 = .ok (.ireturn, 1) := by decide +kernel
theorem dX12_strength_0 : decode cX12_strength 0 = .ok (.aload_n 0, 1) := by decide +kernel
theorem dX12_strength_1 : decode cX12_strength 1 = .ok (.getfield 26, 3) := by decide +kernel
theorem dX12_strength_4 : decode cX12_strength 4 = .ok (.getfield 131, 3) := by decide +kernel
theorem dX12_strength_7 : decode cX12_strength 7 = .ok (.ireturn, 1) := by decide +kernel
theorem dX12_charge_0 : decode cX12_charge 0 = .ok (.aload_n 0, 1) := by decide +kernel
theorem dX12_charge_1 : decode cX12_charge 1 = .ok (.getfield 26, 3) := by decide +kernel
theorem dX12_charge_4 : decode cX12_charge 4 = .ok (.getfield 134, 3) := by decide +kernel
theorem dX12_charge_7 : decode cX12_charge 7 = .ok (.ireturn, 1) := by decide +kernel
theorem dX12_lemons_0 : decode cX12_lemons 0 = .ok (.aload_n 0, 1) := by decide +kernel
theorem dX12_lemons_1 : decode cX12_lemons 1 = .ok (.getfield 26, 3) := by decide +kernel
theorem dX12_lemons_4 : decode cX12_lemons 4 = .ok (.getfield 137, 3) := by decide +kernel
theorem dX12_lemons_7 : decode cX12_lemons 7 = .ok (.ireturn, 1) := by decide +kernel
theorem dX12_saucers_0 : decode cX12_saucers 0 = .ok (.aload_n 0, 1) := by decide +kernel
theorem dX12_saucers_1 : decode cX12_saucers 1 = .ok (.getfield 26, 3) := by decide +kernel
theorem dX12_saucers_4 : decode cX12_saucers 4 = .ok (.getfield 140, 3) := by decide +kernel
theorem dX12_saucers_7 : decode cX12_saucers 7 = .ok (.ireturn, 1) := by decide +kernel
theorem dX12_coins_0 : decode cX12_coins 0 = .ok (.aload_n 0, 1) := by decide +kernel
theorem dX12_coins_1 : decode cX12_coins 1 = .ok (.getfield 26, 3) := by decide +kernel
theorem dX12_coins_4 : decode cX12_coins 4 = .ok (.getfield 143, 3) := by decide +kernel
theorem dX12_coins_7 : decode cX12_coins 7 = .ok (.ireturn, 1) := by decide +kernel
theorem dX12_storms_0 : decode cX12_storms 0 = .ok (.aload_n 0, 1) := by decide +kernel
theorem dX12_storms_1 : decode cX12_storms 1 = .ok (.getfield 26, 3) := by decide +kernel
theorem dX12_storms_4 : decode cX12_storms 4 = .ok (.getfield 146, 3) := by decide +kernel
theorem dX12_storms_7 : decode cX12_storms 7 = .ok (.ireturn, 1) := by decide +kernel
theorem dX12_seatedGuests_0 : decode cX12_seatedGuests 0 = .ok (.iconst 0, 1) := by decide +kernel
theorem dX12_seatedGuests_1 : decode cX12_seatedGuests 1 = .ok (.istore_n 1, 1) := by decide +kernel
theorem dX12_seatedGuests_2 : decode cX12_seatedGuests 2 = .ok (.iconst 0, 1) := by decide +kernel
theorem dX12_seatedGuests_3 : decode cX12_seatedGuests 3 = .ok (.istore_n 2, 1) := by decide +kernel
theorem dX12_seatedGuests_4 : decode cX12_seatedGuests 4 = .ok (.iload_n 2, 1) := by decide +kernel
theorem dX12_seatedGuests_5 : decode cX12_seatedGuests 5 = .ok (.aload_n 0, 1) := by decide +kernel
theorem dX12_seatedGuests_6 : decode cX12_seatedGuests 6 = .ok (.getfield 26, 3) := by decide +kernel
theorem dX12_seatedGuests_9 : decode cX12_seatedGuests 9 = .ok (.getfield 102, 3) := by decide +kernel
theorem dX12_seatedGuests_12 : decode cX12_seatedGuests 12 = .ok (.getfield 118, 3) := by decide +kernel
theorem dX12_seatedGuests_15 : decode cX12_seatedGuests 15 = .ok (.getfield 122, 3) := by decide +kernel
theorem dX12_seatedGuests_18 : decode cX12_seatedGuests 18 = .ok (.if_icmp .ge 23, 3) := by decide +kernel
theorem dX12_seatedGuests_21 : decode cX12_seatedGuests 21 = .ok (.iload_n 1, 1) := by decide +kernel
theorem dX12_seatedGuests_22 : decode cX12_seatedGuests 22 = .ok (.aload_n 0, 1) := by decide +kernel
theorem dX12_seatedGuests_23 : decode cX12_seatedGuests 23 = .ok (.getfield 26, 3) := by decide +kernel
theorem dX12_seatedGuests_26 : decode cX12_seatedGuests 26 = .ok (.iload_n 2, 1) := by decide +kernel
theorem dX12_seatedGuests_27 : decode cX12_seatedGuests 27 = .ok (.invokevirtual 149, 3) := by decide +kernel
theorem dX12_seatedGuests_30 : decode cX12_seatedGuests 30 = .ok (.invokestatic 153, 3) := by decide +kernel
theorem dX12_seatedGuests_33 : decode cX12_seatedGuests 33 = .ok (.iadd, 1) := by decide +kernel
theorem dX12_seatedGuests_34 : decode cX12_seatedGuests 34 = .ok (.istore_n 1, 1) := by decide +kernel
theorem dX12_seatedGuests_35 : decode cX12_seatedGuests 35 = .ok (.iinc 2 1, 3) := by decide +kernel
theorem dX12_seatedGuests_38 : decode cX12_seatedGuests 38 = .ok (.goto (-34), 3) := by decide +kernel
theorem dX12_seatedGuests_41 : decode cX12_seatedGuests 41 = .ok (.iload_n 1, 1) := by decide +kernel
theorem dX12_seatedGuests_42 : decode cX12_seatedGuests 42 = .ok (.ireturn, 1) := by decide +kernel
theorem dX12_served_0 : decode cX12_served 0 = .ok (.aload_n 0, 1) := by decide +kernel
theorem dX12_served_1 : decode cX12_served 1 = .ok (.getfield 26, 3) := by decide +kernel
theorem dX12_served_4 : decode cX12_served 4 = .ok (.getfield 157, 3) := by decide +kernel
theorem dX12_served_7 : decode cX12_served 7 = .ok (.aload_n 0, 1) := by decide +kernel
theorem dX12_served_8 : decode cX12_served 8 = .ok (.getfield 26, 3) := by decide +kernel
theorem dX12_served_11 : decode cX12_served 11 = .ok (.getfield 102, 3) := by decide +kernel
theorem dX12_served_14 : decode cX12_served 14 = .ok (.getfield 118, 3) := by decide +kernel
theorem dX12_served_17 : decode cX12_served 17 = .ok (.getfield 122, 3) := by decide +kernel
theorem dX12_served_20 : decode cX12_served 20 = .ok (.invokestatic 161, 3) := by decide +kernel
theorem dX12_served_23 : decode cX12_served 23 = .ok (.ireturn, 1) := by decide +kernel
theorem dX12_stormed_0 : decode cX12_stormed 0 = .ok (.aload_n 0, 1) := by decide +kernel
theorem dX12_stormed_1 : decode cX12_stormed 1 = .ok (.getfield 26, 3) := by decide +kernel
theorem dX12_stormed_4 : decode cX12_stormed 4 = .ok (.getfield 165, 3) := by decide +kernel
theorem dX12_stormed_7 : decode cX12_stormed 7 = .ok (.aload_n 0, 1) := by decide +kernel
theorem dX12_stormed_8 : decode cX12_stormed 8 = .ok (.getfield 26, 3) := by decide +kernel
theorem dX12_stormed_11 : decode cX12_stormed 11 = .ok (.getfield 102, 3) := by decide +kernel
theorem dX12_stormed_14 : decode cX12_stormed 14 = .ok (.getfield 118, 3) := by decide +kernel
theorem dX12_stormed_17 : decode cX12_stormed 17 = .ok (.getfield 122, 3) := by decide +kernel
theorem dX12_stormed_20 : decode cX12_stormed 20 = .ok (.invokestatic 161, 3) := by decide +kernel
theorem dX12_stormed_23 : decode cX12_stormed 23 = .ok (.ireturn, 1) := by decide +kernel
theorem dX12_isWarm_0 : decode cX12_isWarm 0 = .ok (.aload_n 0, 1) := by decide +kernel
theorem dX12_isWarm_1 : decode cX12_isWarm 1 = .ok (.iload_n 1, 1) := by decide +kernel
theorem dX12_isWarm_2 : decode cX12_isWarm 2 = .ok (.invokevirtual 168, 3) := by decide +kernel
theorem dX12_isWarm_5 : decode cX12_isWarm 5 = .ok (.aload_n 0, 1) := by decide +kernel
theorem dX12_isWarm_6 : decode cX12_isWarm 6 = .ok (.getfield 26, 3) := by decide +kernel
theorem dX12_isWarm_9 : decode cX12_isWarm 9 = .ok (.getfield 102, 3) := by decide +kernel
theorem dX12_isWarm_12 : decode cX12_isWarm 12 = .ok (.getfield 109, 3) := by decide +kernel
theorem dX12_isWarm_15 : decode cX12_isWarm 15 = .ok (.getfield 171, 3) := by decide +kernel
theorem dX12_isWarm_18 : decode cX12_isWarm 18 = .ok (.iload_n 1, 1) := by decide +kernel
theorem dX12_isWarm_19 : decode cX12_isWarm 19 = .ok (.baload, 1) := by decide +kernel
theorem dX12_isWarm_20 : decode cX12_isWarm 20 = .ok (.ireturn, 1) := by decide +kernel
theorem dX12_forceOf_0 : decode cX12_forceOf 0 = .ok (.aload_n 0, 1) := by decide +kernel
theorem dX12_forceOf_1 : decode cX12_forceOf 1 = .ok (.iload_n 1, 1) := by decide +kernel
theorem dX12_forceOf_2 : decode cX12_forceOf 2 = .ok (.invokevirtual 168, 3) := by decide +kernel
theorem dX12_forceOf_5 : decode cX12_forceOf 5 = .ok (.aload_n 0, 1) := by decide +kernel
theorem dX12_forceOf_6 : decode cX12_forceOf 6 = .ok (.getfield 26, 3) := by decide +kernel
theorem dX12_forceOf_9 : decode cX12_forceOf 9 = .ok (.getfield 102, 3) := by decide +kernel
theorem dX12_forceOf_12 : decode cX12_forceOf 12 = .ok (.getfield 109, 3) := by decide +kernel
theorem dX12_forceOf_15 : decode cX12_forceOf 15 = .ok (.getfield 174, 3) := by decide +kernel
theorem dX12_forceOf_18 : decode cX12_forceOf 18 = .ok (.iload_n 1, 1) := by decide +kernel
theorem dX12_forceOf_19 : decode cX12_forceOf 19 = .ok (.iaload, 1) := by decide +kernel
theorem dX12_forceOf_20 : decode cX12_forceOf 20 = .ok (.ireturn, 1) := by decide +kernel
theorem dX12_isOver_0 : decode cX12_isOver 0 = .ok (.aload_n 0, 1) := by decide +kernel
theorem dX12_isOver_1 : decode cX12_isOver 1 = .ok (.iload_n 1, 1) := by decide +kernel
theorem dX12_isOver_2 : decode cX12_isOver 2 = .ok (.invokevirtual 168, 3) := by decide +kernel
theorem dX12_isOver_5 : decode cX12_isOver 5 = .ok (.aload_n 0, 1) := by decide +kernel
theorem dX12_isOver_6 : decode cX12_isOver 6 = .ok (.getfield 26, 3) := by decide +kernel
theorem dX12_isOver_9 : decode cX12_isOver 9 = .ok (.iload_n 1, 1) := by decide +kernel
theorem dX12_isOver_10 : decode cX12_isOver 10 = .ok (.invokevirtual 178, 3) := by decide +kernel
theorem dX12_isOver_13 : decode cX12_isOver 13 = .ok (.ireturn, 1) := by decide +kernel
theorem dX12_isSteeped_0 : decode cX12_isSteeped 0 = .ok (.aload_n 0, 1) := by decide +kernel
theorem dX12_isSteeped_1 : decode cX12_isSteeped 1 = .ok (.iload_n 1, 1) := by decide +kernel
theorem dX12_isSteeped_2 : decode cX12_isSteeped 2 = .ok (.invokevirtual 168, 3) := by decide +kernel
theorem dX12_isSteeped_5 : decode cX12_isSteeped 5 = .ok (.aload_n 0, 1) := by decide +kernel
theorem dX12_isSteeped_6 : decode cX12_isSteeped 6 = .ok (.getfield 26, 3) := by decide +kernel
theorem dX12_isSteeped_9 : decode cX12_isSteeped 9 = .ok (.getfield 181, 3) := by decide +kernel
theorem dX12_isSteeped_12 : decode cX12_isSteeped 12 = .ok (.iload_n 1, 1) := by decide +kernel
theorem dX12_isSteeped_13 : decode cX12_isSteeped 13 = .ok (.baload, 1) := by decide +kernel
theorem dX12_isSteeped_14 : decode cX12_isSteeped 14 = .ok (.ireturn, 1) := by decide +kernel
theorem dX12_isSeated_0 : decode cX12_isSeated 0 = .ok (.aload_n 0, 1) := by decide +kernel
theorem dX12_isSeated_1 : decode cX12_isSeated 1 = .ok (.iload_n 1, 1) := by decide +kernel
theorem dX12_isSeated_2 : decode cX12_isSeated 2 = .ok (.invokevirtual 184, 3) := by decide +kernel
theorem dX12_isSeated_5 : decode cX12_isSeated 5 = .ok (.aload_n 0, 1) := by decide +kernel
theorem dX12_isSeated_6 : decode cX12_isSeated 6 = .ok (.getfield 26, 3) := by decide +kernel
theorem dX12_isSeated_9 : decode cX12_isSeated 9 = .ok (.iload_n 1, 1) := by decide +kernel
theorem dX12_isSeated_10 : decode cX12_isSeated 10 = .ok (.invokevirtual 149, 3) := by decide +kernel
theorem dX12_isSeated_13 : decode cX12_isSeated 13 = .ok (.ireturn, 1) := by decide +kernel
theorem dX12_isContent_0 : decode cX12_isContent 0 = .ok (.aload_n 0, 1) := by decide +kernel
theorem dX12_isContent_1 : decode cX12_isContent 1 = .ok (.iload_n 1, 1) := by decide +kernel
theorem dX12_isContent_2 : decode cX12_isContent 2 = .ok (.invokevirtual 184, 3) := by decide +kernel
theorem dX12_isContent_5 : decode cX12_isContent 5 = .ok (.aload_n 0, 1) := by decide +kernel
theorem dX12_isContent_6 : decode cX12_isContent 6 = .ok (.getfield 26, 3) := by decide +kernel
theorem dX12_isContent_9 : decode cX12_isContent 9 = .ok (.iload_n 1, 1) := by decide +kernel
theorem dX12_isContent_10 : decode cX12_isContent 10 = .ok (.aload_n 0, 1) := by decide +kernel
theorem dX12_isContent_11 : decode cX12_isContent 11 = .ok (.getfield 26, 3) := by decide +kernel
theorem dX12_isContent_14 : decode cX12_isContent 14 = .ok (.getfield 131, 3) := by decide +kernel
theorem dX12_isContent_17 : decode cX12_isContent 17 = .ok (.invokevirtual 187, 3) := by decide +kernel
theorem dX12_isContent_20 : decode cX12_isContent 20 = .ok (.ireturn, 1) := by decide +kernel
theorem dX12_wasServed_0 : decode cX12_wasServed 0 = .ok (.aload_n 0, 1) := by decide +kernel
theorem dX12_wasServed_1 : decode cX12_wasServed 1 = .ok (.iload_n 1, 1) := by decide +kernel
theorem dX12_wasServed_2 : decode cX12_wasServed 2 = .ok (.invokevirtual 184, 3) := by decide +kernel
theorem dX12_wasServed_5 : decode cX12_wasServed 5 = .ok (.aload_n 0, 1) := by decide +kernel
theorem dX12_wasServed_6 : decode cX12_wasServed 6 = .ok (.getfield 26, 3) := by decide +kernel
theorem dX12_wasServed_9 : decode cX12_wasServed 9 = .ok (.getfield 157, 3) := by decide +kernel
theorem dX12_wasServed_12 : decode cX12_wasServed 12 = .ok (.iload_n 1, 1) := by decide +kernel
theorem dX12_wasServed_13 : decode cX12_wasServed 13 = .ok (.baload, 1) := by decide +kernel
theorem dX12_wasServed_14 : decode cX12_wasServed 14 = .ok (.ireturn, 1) := by decide +kernel
theorem dX12_wasStormed_0 : decode cX12_wasStormed 0 = .ok (.aload_n 0, 1) := by decide +kernel
theorem dX12_wasStormed_1 : decode cX12_wasStormed 1 = .ok (.iload_n 1, 1) := by decide +kernel
theorem dX12_wasStormed_2 : decode cX12_wasStormed 2 = .ok (.invokevirtual 184, 3) := by decide +kernel
theorem dX12_wasStormed_5 : decode cX12_wasStormed 5 = .ok (.aload_n 0, 1) := by decide +kernel
theorem dX12_wasStormed_6 : decode cX12_wasStormed 6 = .ok (.getfield 26, 3) := by decide +kernel
theorem dX12_wasStormed_9 : decode cX12_wasStormed 9 = .ok (.getfield 165, 3) := by decide +kernel
theorem dX12_wasStormed_12 : decode cX12_wasStormed 12 = .ok (.iload_n 1, 1) := by decide +kernel
theorem dX12_wasStormed_13 : decode cX12_wasStormed 13 = .ok (.baload, 1) := by decide +kernel
theorem dX12_wasStormed_14 : decode cX12_wasStormed 14 = .ok (.ireturn, 1) := by decide +kernel
theorem dX12_steep_0 : decode cX12_steep 0 = .ok (.aload_n 0, 1) := by decide +kernel
theorem dX12_steep_1 : decode cX12_steep 1 = .ok (.iload_n 1, 1) := by decide +kernel
theorem dX12_steep_2 : decode cX12_steep 2 = .ok (.invokevirtual 168, 3) := by decide +kernel
theorem dX12_steep_5 : decode cX12_steep 5 = .ok (.aload_n 0, 1) := by decide +kernel
theorem dX12_steep_6 : decode cX12_steep 6 = .ok (.getfield 26, 3) := by decide +kernel
theorem dX12_steep_9 : decode cX12_steep 9 = .ok (.iload_n 1, 1) := by decide +kernel
theorem dX12_steep_10 : decode cX12_steep 10 = .ok (.invokevirtual 191, 3) := by decide +kernel
theorem dX12_steep_13 : decode cX12_steep 13 = .ok (.ifCond .ne 13, 3) := by decide +kernel
theorem dX12_steep_16 : decode cX12_steep 16 = .ok (.new 47, 3) := by decide +kernel
theorem dX12_steep_19 : decode cX12_steep 19 = .ok (.dup, 1) := by decide +kernel
theorem dX12_steep_20 : decode cX12_steep 20 = .ok (.ldc 194, 2) := by decide +kernel
theorem dX12_steep_22 : decode cX12_steep 22 = .ok (.invokespecial 51, 3) := by decide +kernel
theorem dX12_steep_25 : decode cX12_steep 25 = .ok (.athrow, 1) := by decide +kernel
theorem dX12_steep_26 : decode cX12_steep 26 = .ok (.aload_n 0, 1) := by decide +kernel
theorem dX12_steep_27 : decode cX12_steep 27 = .ok (.getfield 26, 3) := by decide +kernel
theorem dX12_steep_30 : decode cX12_steep 30 = .ok (.getfield 131, 3) := by decide +kernel
theorem dX12_steep_33 : decode cX12_steep 33 = .ok (.ireturn, 1) := by decide +kernel
theorem dX12_lemon_0 : decode cX12_lemon 0 = .ok (.aload_n 0, 1) := by decide +kernel
theorem dX12_lemon_1 : decode cX12_lemon 1 = .ok (.getfield 26, 3) := by decide +kernel
theorem dX12_lemon_4 : decode cX12_lemon 4 = .ok (.invokevirtual 196, 3) := by decide +kernel
theorem dX12_lemon_7 : decode cX12_lemon 7 = .ok (.ifCond .ne 13, 3) := by decide +kernel
theorem dX12_lemon_10 : decode cX12_lemon 10 = .ok (.new 47, 3) := by decide +kernel
theorem dX12_lemon_13 : decode cX12_lemon 13 = .ok (.dup, 1) := by decide +kernel
theorem dX12_lemon_14 : decode cX12_lemon 14 = .ok (.ldc 200, 2) := by decide +kernel
theorem dX12_lemon_16 : decode cX12_lemon 16 = .ok (.invokespecial 51, 3) := by decide +kernel
theorem dX12_lemon_19 : decode cX12_lemon 19 = .ok (.athrow, 1) := by decide +kernel
theorem dX12_lemon_20 : decode cX12_lemon 20 = .ok (.aload_n 0, 1) := by decide +kernel
theorem dX12_lemon_21 : decode cX12_lemon 21 = .ok (.getfield 26, 3) := by decide +kernel
theorem dX12_lemon_24 : decode cX12_lemon 24 = .ok (.getfield 134, 3) := by decide +kernel
theorem dX12_lemon_27 : decode cX12_lemon 27 = .ok (.ireturn, 1) := by decide +kernel
theorem dX12_saucer_0 : decode cX12_saucer 0 = .ok (.aload_n 0, 1) := by decide +kernel
theorem dX12_saucer_1 : decode cX12_saucer 1 = .ok (.getfield 26, 3) := by decide +kernel
theorem dX12_saucer_4 : decode cX12_saucer 4 = .ok (.invokevirtual 202, 3) := by decide +kernel
theorem dX12_saucer_7 : decode cX12_saucer 7 = .ok (.ifCond .ne 13, 3) := by decide +kernel
theorem dX12_saucer_10 : decode cX12_saucer 10 = .ok (.new 47, 3) := by decide +kernel
theorem dX12_saucer_13 : decode cX12_saucer 13 = .ok (.dup, 1) := by decide +kernel
theorem dX12_saucer_14 : decode cX12_saucer 14 = .ok (.ldc 205, 2) := by decide +kernel
theorem dX12_saucer_16 : decode cX12_saucer 16 = .ok (.invokespecial 51, 3) := by decide +kernel
theorem dX12_saucer_19 : decode cX12_saucer 19 = .ok (.athrow, 1) := by decide +kernel
theorem dX12_saucer_20 : decode cX12_saucer 20 = .ok (.aload_n 0, 1) := by decide +kernel
theorem dX12_saucer_21 : decode cX12_saucer 21 = .ok (.getfield 26, 3) := by decide +kernel
theorem dX12_saucer_24 : decode cX12_saucer 24 = .ok (.getfield 134, 3) := by decide +kernel
theorem dX12_saucer_27 : decode cX12_saucer 27 = .ok (.ireturn, 1) := by decide +kernel
theorem dX12_serve_0 : decode cX12_serve 0 = .ok (.aload_n 0, 1) := by decide +kernel
theorem dX12_serve_1 : decode cX12_serve 1 = .ok (.iload_n 1, 1) := by decide +kernel
theorem dX12_serve_2 : decode cX12_serve 2 = .ok (.invokevirtual 184, 3) := by decide +kernel
theorem dX12_serve_5 : decode cX12_serve 5 = .ok (.aload_n 0, 1) := by decide +kernel
theorem dX12_serve_6 : decode cX12_serve 6 = .ok (.getfield 26, 3) := by decide +kernel
theorem dX12_serve_9 : decode cX12_serve 9 = .ok (.getfield 143, 3) := by decide +kernel
theorem dX12_serve_12 : decode cX12_serve 12 = .ok (.istore_n 2, 1) := by decide +kernel
theorem dX12_serve_13 : decode cX12_serve 13 = .ok (.aload_n 0, 1) := by decide +kernel
theorem dX12_serve_14 : decode cX12_serve 14 = .ok (.getfield 26, 3) := by decide +kernel
theorem dX12_serve_17 : decode cX12_serve 17 = .ok (.iload_n 1, 1) := by decide +kernel
theorem dX12_serve_18 : decode cX12_serve 18 = .ok (.invokevirtual 207, 3) := by decide +kernel
theorem dX12_serve_21 : decode cX12_serve 21 = .ok (.ifCond .ne 13, 3) := by decide +kernel
theorem dX12_serve_24 : decode cX12_serve 24 = .ok (.new 47, 3) := by decide +kernel
theorem dX12_serve_27 : decode cX12_serve 27 = .ok (.dup, 1) := by decide +kernel
theorem dX12_serve_28 : decode cX12_serve 28 = .ok (.ldc 210, 2) := by decide +kernel
theorem dX12_serve_30 : decode cX12_serve 30 = .ok (.invokespecial 51, 3) := by decide +kernel
theorem dX12_serve_33 : decode cX12_serve 33 = .ok (.athrow, 1) := by decide +kernel
theorem dX12_serve_34 : decode cX12_serve 34 = .ok (.aload_n 0, 1) := by decide +kernel
theorem dX12_serve_35 : decode cX12_serve 35 = .ok (.getfield 26, 3) := by decide +kernel
theorem dX12_serve_38 : decode cX12_serve 38 = .ok (.getfield 143, 3) := by decide +kernel
theorem dX12_serve_41 : decode cX12_serve 41 = .ok (.iload_n 2, 1) := by decide +kernel
theorem dX12_serve_42 : decode cX12_serve 42 = .ok (.isub, 1) := by decide +kernel
theorem dX12_serve_43 : decode cX12_serve 43 = .ok (.ireturn, 1) := by decide +kernel
theorem dX12_heat_0 : decode cX12_heat 0 = .ok (.iload_n 1, 1) := by decide +kernel
theorem dX12_heat_1 : decode cX12_heat 1 = .ok (.ifCond .lt 9, 3) := by decide +kernel
theorem dX12_heat_4 : decode cX12_heat 4 = .ok (.iload_n 1, 1) := by decide +kernel
theorem dX12_heat_5 : decode cX12_heat 5 = .ok (.bipush 40, 2) := by decide +kernel
theorem dX12_heat_7 : decode cX12_heat 7 = .ok (.if_icmp .le 13, 3) := by decide +kernel
theorem dX12_heat_10 : decode cX12_heat 10 = .ok (.new 58, 3) := by decide +kernel
theorem dX12_heat_13 : decode cX12_heat 13 = .ok (.dup, 1) := by decide +kernel
theorem dX12_heat_14 : decode cX12_heat 14 = .ok (.ldc 212, 2) := by decide +kernel
theorem dX12_heat_16 : decode cX12_heat 16 = .ok (.invokespecial 62, 3) := by decide +kernel
theorem dX12_heat_19 : decode cX12_heat 19 = .ok (.athrow, 1) := by decide +kernel
theorem dX12_heat_20 : decode cX12_heat 20 = .ok (.aload_n 0, 1) := by decide +kernel
theorem dX12_heat_21 : decode cX12_heat 21 = .ok (.getfield 26, 3) := by decide +kernel
theorem dX12_heat_24 : decode cX12_heat 24 = .ok (.getfield 128, 3) := by decide +kernel
theorem dX12_heat_27 : decode cX12_heat 27 = .ok (.istore_n 2, 1) := by decide +kernel
theorem dX12_heat_28 : decode cX12_heat 28 = .ok (.aload_n 0, 1) := by decide +kernel
theorem dX12_heat_29 : decode cX12_heat 29 = .ok (.getfield 26, 3) := by decide +kernel
theorem dX12_heat_32 : decode cX12_heat 32 = .ok (.iload_n 1, 1) := by decide +kernel
theorem dX12_heat_33 : decode cX12_heat 33 = .ok (.putfield 128, 3) := by decide +kernel
theorem dX12_heat_36 : decode cX12_heat 36 = .ok (.iload_n 2, 1) := by decide +kernel
theorem dX12_heat_37 : decode cX12_heat 37 = .ok (.ireturn, 1) := by decide +kernel
theorem dX12_passHours_0 : decode cX12_passHours 0 = .ok (.iload_n 1, 1) := by decide +kernel
theorem dX12_passHours_1 : decode cX12_passHours 1 = .ok (.invokestatic 214, 3) := by decide +kernel
theorem dX12_passHours_4 : decode cX12_passHours 4 = .ok (.aload_n 0, 1) := by decide +kernel
theorem dX12_passHours_5 : decode cX12_passHours 5 = .ok (.getfield 26, 3) := by decide +kernel
theorem dX12_passHours_8 : decode cX12_passHours 8 = .ok (.getfield 146, 3) := by decide +kernel
theorem dX12_passHours_11 : decode cX12_passHours 11 = .ok (.istore_n 2, 1) := by decide +kernel
theorem dX12_passHours_12 : decode cX12_passHours 12 = .ok (.iconst 0, 1) := by decide +kernel
theorem dX12_passHours_13 : decode cX12_passHours 13 = .ok (.istore_n 3, 1) := by decide +kernel
theorem dX12_passHours_14 : decode cX12_passHours 14 = .ok (.iload_n 3, 1) := by decide +kernel
theorem dX12_passHours_15 : decode cX12_passHours 15 = .ok (.iload_n 1, 1) := by decide +kernel
theorem dX12_passHours_16 : decode cX12_passHours 16 = .ok (.if_icmp .ge 16, 3) := by decide +kernel
theorem dX12_passHours_19 : decode cX12_passHours 19 = .ok (.aload_n 0, 1) := by decide +kernel
theorem dX12_passHours_20 : decode cX12_passHours 20 = .ok (.getfield 26, 3) := by decide +kernel
theorem dX12_passHours_23 : decode cX12_passHours 23 = .ok (.invokevirtual 217, 3) := by decide +kernel
theorem dX12_passHours_26 : decode cX12_passHours 26 = .ok (.iinc 3 1, 3) := by decide +kernel
theorem dX12_passHours_29 : decode cX12_passHours 29 = .ok (.goto (-15), 3) := by decide +kernel
theorem dX12_passHours_32 : decode cX12_passHours 32 = .ok (.aload_n 0, 1) := by decide +kernel
theorem dX12_passHours_33 : decode cX12_passHours 33 = .ok (.getfield 26, 3) := by decide +kernel
theorem dX12_passHours_36 : decode cX12_passHours 36 = .ok (.getfield 146, 3) := by decide +kernel
theorem dX12_passHours_39 : decode cX12_passHours 39 = .ok (.iload_n 2, 1) := by decide +kernel
theorem dX12_passHours_40 : decode cX12_passHours 40 = .ok (.isub, 1) := by decide +kernel
theorem dX12_passHours_41 : decode cX12_passHours 41 = .ok (.ireturn, 1) := by decide +kernel
theorem dX12_coinsAfter_0 : decode cX12_coinsAfter 0 = .ok (.iload_n 1, 1) := by decide +kernel
theorem dX12_coinsAfter_1 : decode cX12_coinsAfter 1 = .ok (.invokestatic 214, 3) := by decide +kernel
theorem dX12_coinsAfter_4 : decode cX12_coinsAfter 4 = .ok (.aload_n 0, 1) := by decide +kernel
theorem dX12_coinsAfter_5 : decode cX12_coinsAfter 5 = .ok (.getfield 30, 3) := by decide +kernel
theorem dX12_coinsAfter_8 : decode cX12_coinsAfter 8 = .ok (.aload_n 0, 1) := by decide +kernel
theorem dX12_coinsAfter_9 : decode cX12_coinsAfter 9 = .ok (.getfield 26, 3) := by decide +kernel
theorem dX12_coinsAfter_12 : decode cX12_coinsAfter 12 = .ok (.invokevirtual 220, 3) := by decide +kernel
theorem dX12_coinsAfter_15 : decode cX12_coinsAfter 15 = .ok (.iconst 0, 1) := by decide +kernel
theorem dX12_coinsAfter_16 : decode cX12_coinsAfter 16 = .ok (.istore_n 2, 1) := by decide +kernel
theorem dX12_coinsAfter_17 : decode cX12_coinsAfter 17 = .ok (.iload_n 2, 1) := by decide +kernel
theorem dX12_coinsAfter_18 : decode cX12_coinsAfter 18 = .ok (.iload_n 1, 1) := by decide +kernel
theorem dX12_coinsAfter_19 : decode cX12_coinsAfter 19 = .ok (.if_icmp .ge 16, 3) := by decide +kernel
theorem dX12_coinsAfter_22 : decode cX12_coinsAfter 22 = .ok (.aload_n 0, 1) := by decide +kernel
theorem dX12_coinsAfter_23 : decode cX12_coinsAfter 23 = .ok (.getfield 30, 3) := by decide +kernel
theorem dX12_coinsAfter_26 : decode cX12_coinsAfter 26 = .ok (.invokevirtual 217, 3) := by decide +kernel
theorem dX12_coinsAfter_29 : decode cX12_coinsAfter 29 = .ok (.iinc 2 1, 3) := by decide +kernel
theorem dX12_coinsAfter_32 : decode cX12_coinsAfter 32 = .ok (.goto (-15), 3) := by decide +kernel
theorem dX12_coinsAfter_35 : decode cX12_coinsAfter 35 = .ok (.aload_n 0, 1) := by decide +kernel
theorem dX12_coinsAfter_36 : decode cX12_coinsAfter 36 = .ok (.getfield 30, 3) := by decide +kernel
theorem dX12_coinsAfter_39 : decode cX12_coinsAfter 39 = .ok (.getfield 143, 3) := by decide +kernel
theorem dX12_coinsAfter_42 : decode cX12_coinsAfter 42 = .ok (.ireturn, 1) := by decide +kernel
theorem dX12_hoursUntilStorm_0 : decode cX12_hoursUntilStorm 0 = .ok (.aload_n 0, 1) := by decide +kernel
theorem dX12_hoursUntilStorm_1 : decode cX12_hoursUntilStorm 1 = .ok (.getfield 30, 3) := by decide +kernel
theorem dX12_hoursUntilStorm_4 : decode cX12_hoursUntilStorm 4 = .ok (.aload_n 0, 1) := by decide +kernel
theorem dX12_hoursUntilStorm_5 : decode cX12_hoursUntilStorm 5 = .ok (.getfield 26, 3) := by decide +kernel
theorem dX12_hoursUntilStorm_8 : decode cX12_hoursUntilStorm 8 = .ok (.invokevirtual 220, 3) := by decide +kernel
theorem dX12_hoursUntilStorm_11 : decode cX12_hoursUntilStorm 11 = .ok (.iconst 1, 1) := by decide +kernel
theorem dX12_hoursUntilStorm_12 : decode cX12_hoursUntilStorm 12 = .ok (.istore_n 1, 1) := by decide +kernel
theorem dX12_hoursUntilStorm_13 : decode cX12_hoursUntilStorm 13 = .ok (.iload_n 1, 1) := by decide +kernel
theorem dX12_hoursUntilStorm_14 : decode cX12_hoursUntilStorm 14 = .ok (.bipush 60, 2) := by decide +kernel
theorem dX12_hoursUntilStorm_16 : decode cX12_hoursUntilStorm 16 = .ok (.if_icmp .gt 35, 3) := by decide +kernel
theorem dX12_hoursUntilStorm_19 : decode cX12_hoursUntilStorm 19 = .ok (.aload_n 0, 1) := by decide +kernel
theorem dX12_hoursUntilStorm_20 : decode cX12_hoursUntilStorm 20 = .ok (.getfield 30, 3) := by decide +kernel
theorem dX12_hoursUntilStorm_23 : decode cX12_hoursUntilStorm 23 = .ok (.invokevirtual 217, 3) := by decide +kernel
theorem dX12_hoursUntilStorm_26 : decode cX12_hoursUntilStorm 26 = .ok (.aload_n 0, 1) := by decide +kernel
theorem dX12_hoursUntilStorm_27 : decode cX12_hoursUntilStorm 27 = .ok (.getfield 30, 3) := by decide +kernel
theorem dX12_hoursUntilStorm_30 : decode cX12_hoursUntilStorm 30 = .ok (.getfield 146, 3) := by decide +kernel
theorem dX12_hoursUntilStorm_33 : decode cX12_hoursUntilStorm 33 = .ok (.aload_n 0, 1) := by decide +kernel
theorem dX12_hoursUntilStorm_34 : decode cX12_hoursUntilStorm 34 = .ok (.getfield 26, 3) := by decide +kernel
theorem dX12_hoursUntilStorm_37 : decode cX12_hoursUntilStorm 37 = .ok (.getfield 146, 3) := by decide +kernel
theorem dX12_hoursUntilStorm_40 : decode cX12_hoursUntilStorm 40 = .ok (.if_icmp .le 5, 3) := by decide +kernel
theorem dX12_hoursUntilStorm_43 : decode cX12_hoursUntilStorm 43 = .ok (.iload_n 1, 1) := by decide +kernel
theorem dX12_hoursUntilStorm_44 : decode cX12_hoursUntilStorm 44 = .ok (.ireturn, 1) := by decide +kernel
theorem dX12_hoursUntilStorm_45 : decode cX12_hoursUntilStorm 45 = .ok (.iinc 1 1, 3) := by decide +kernel
theorem dX12_hoursUntilStorm_48 : decode cX12_hoursUntilStorm 48 = .ok (.goto (-35), 3) := by decide +kernel
theorem dX12_hoursUntilStorm_51 : decode cX12_hoursUntilStorm 51 = .ok (.iconst (-1), 1) := by decide +kernel
theorem dX12_hoursUntilStorm_52 : decode cX12_hoursUntilStorm 52 = .ok (.ireturn, 1) := by decide +kernel
theorem dX12_hoursUntilServed_0 : decode cX12_hoursUntilServed 0 = .ok (.aload_n 0, 1) := by decide +kernel
theorem dX12_hoursUntilServed_1 : decode cX12_hoursUntilServed 1 = .ok (.iload_n 1, 1) := by decide +kernel
theorem dX12_hoursUntilServed_2 : decode cX12_hoursUntilServed 2 = .ok (.invokevirtual 184, 3) := by decide +kernel
theorem dX12_hoursUntilServed_5 : decode cX12_hoursUntilServed 5 = .ok (.aload_n 0, 1) := by decide +kernel
theorem dX12_hoursUntilServed_6 : decode cX12_hoursUntilServed 6 = .ok (.getfield 30, 3) := by decide +kernel
theorem dX12_hoursUntilServed_9 : decode cX12_hoursUntilServed 9 = .ok (.aload_n 0, 1) := by decide +kernel
theorem dX12_hoursUntilServed_10 : decode cX12_hoursUntilServed 10 = .ok (.getfield 26, 3) := by decide +kernel
theorem dX12_hoursUntilServed_13 : decode cX12_hoursUntilServed 13 = .ok (.invokevirtual 220, 3) := by decide +kernel
theorem dX12_hoursUntilServed_16 : decode cX12_hoursUntilServed 16 = .ok (.iconst 0, 1) := by decide +kernel
theorem dX12_hoursUntilServed_17 : decode cX12_hoursUntilServed 17 = .ok (.istore_n 2, 1) := by decide +kernel
theorem dX12_hoursUntilServed_18 : decode cX12_hoursUntilServed 18 = .ok (.iload_n 2, 1) := by decide +kernel
theorem dX12_hoursUntilServed_19 : decode cX12_hoursUntilServed 19 = .ok (.bipush 60, 2) := by decide +kernel
theorem dX12_hoursUntilServed_21 : decode cX12_hoursUntilServed 21 = .ok (.if_icmp .ge 30, 3) := by decide +kernel
theorem dX12_hoursUntilServed_24 : decode cX12_hoursUntilServed 24 = .ok (.aload_n 0, 1) := by decide +kernel
theorem dX12_hoursUntilServed_25 : decode cX12_hoursUntilServed 25 = .ok (.getfield 30, 3) := by decide +kernel
theorem dX12_hoursUntilServed_28 : decode cX12_hoursUntilServed 28 = .ok (.getfield 157, 3) := by decide +kernel
theorem dX12_hoursUntilServed_31 : decode cX12_hoursUntilServed 31 = .ok (.iload_n 1, 1) := by decide +kernel
theorem dX12_hoursUntilServed_32 : decode cX12_hoursUntilServed 32 = .ok (.baload, 1) := by decide +kernel
theorem dX12_hoursUntilServed_33 : decode cX12_hoursUntilServed 33 = .ok (.ifCond .eq 5, 3) := by decide +kernel
theorem dX12_hoursUntilServed_36 : decode cX12_hoursUntilServed 36 = .ok (.iload_n 2, 1) := by decide +kernel
theorem dX12_hoursUntilServed_37 : decode cX12_hoursUntilServed 37 = .ok (.ireturn, 1) := by decide +kernel
theorem dX12_hoursUntilServed_38 : decode cX12_hoursUntilServed 38 = .ok (.aload_n 0, 1) := by decide +kernel
theorem dX12_hoursUntilServed_39 : decode cX12_hoursUntilServed 39 = .ok (.getfield 30, 3) := by decide +kernel
theorem dX12_hoursUntilServed_42 : decode cX12_hoursUntilServed 42 = .ok (.invokevirtual 217, 3) := by decide +kernel
theorem dX12_hoursUntilServed_45 : decode cX12_hoursUntilServed 45 = .ok (.iinc 2 1, 3) := by decide +kernel
theorem dX12_hoursUntilServed_48 : decode cX12_hoursUntilServed 48 = .ok (.goto (-30), 3) := by decide +kernel
theorem dX12_hoursUntilServed_51 : decode cX12_hoursUntilServed 51 = .ok (.aload_n 0, 1) := by decide +kernel
theorem dX12_hoursUntilServed_52 : decode cX12_hoursUntilServed 52 = .ok (.getfield 30, 3) := by decide +kernel
theorem dX12_hoursUntilServed_55 : decode cX12_hoursUntilServed 55 = .ok (.getfield 157, 3) := by decide +kernel
theorem dX12_hoursUntilServed_58 : decode cX12_hoursUntilServed 58 = .ok (.iload_n 1, 1) := by decide +kernel
theorem dX12_hoursUntilServed_59 : decode cX12_hoursUntilServed 59 = .ok (.baload, 1) := by decide +kernel
theorem dX12_hoursUntilServed_60 : decode cX12_hoursUntilServed 60 = .ok (.ifCond .eq 8, 3) := by decide +kernel
theorem dX12_hoursUntilServed_63 : decode cX12_hoursUntilServed 63 = .ok (.bipush 60, 2) := by decide +kernel
theorem dX12_hoursUntilServed_65 : decode cX12_hoursUntilServed 65 = .ok (.goto 4, 3) := by decide +kernel
theorem dX12_hoursUntilServed_68 : decode cX12_hoursUntilServed 68 = .ok (.iconst (-1), 1) := by decide +kernel
theorem dX12_hoursUntilServed_69 : decode cX12_hoursUntilServed 69 = .ok (.ireturn, 1) := by decide +kernel
theorem dX12_bestToSteep_0 : decode cX12_bestToSteep 0 = .ok (.iconst (-1), 1) := by decide +kernel
theorem dX12_bestToSteep_1 : decode cX12_bestToSteep 1 = .ok (.istore_n 1, 1) := by decide +kernel
theorem dX12_bestToSteep_2 : decode cX12_bestToSteep 2 = .ok (.iconst (-1), 1) := by decide +kernel
theorem dX12_bestToSteep_3 : decode cX12_bestToSteep 3 = .ok (.istore_n 2, 1) := by decide +kernel
theorem dX12_bestToSteep_4 : decode cX12_bestToSteep 4 = .ok (.iconst 0, 1) := by decide +kernel
theorem dX12_bestToSteep_5 : decode cX12_bestToSteep 5 = .ok (.istore_n 3, 1) := by decide +kernel
theorem dX12_bestToSteep_6 : decode cX12_bestToSteep 6 = .ok (.iload_n 3, 1) := by decide +kernel
theorem dX12_bestToSteep_7 : decode cX12_bestToSteep 7 = .ok (.aload_n 0, 1) := by decide +kernel
theorem dX12_bestToSteep_8 : decode cX12_bestToSteep 8 = .ok (.getfield 26, 3) := by decide +kernel
theorem dX12_bestToSteep_11 : decode cX12_bestToSteep 11 = .ok (.getfield 102, 3) := by decide +kernel
theorem dX12_bestToSteep_14 : decode cX12_bestToSteep 14 = .ok (.getfield 109, 3) := by decide +kernel
theorem dX12_bestToSteep_17 : decode cX12_bestToSteep 17 = .ok (.getfield 113, 3) := by decide +kernel
theorem dX12_bestToSteep_20 : decode cX12_bestToSteep 20 = .ok (.if_icmp .ge 41, 3) := by decide +kernel
theorem dX12_bestToSteep_23 : decode cX12_bestToSteep 23 = .ok (.aload_n 0, 1) := by decide +kernel
theorem dX12_bestToSteep_24 : decode cX12_bestToSteep 24 = .ok (.getfield 26, 3) := by decide +kernel
theorem dX12_bestToSteep_27 : decode cX12_bestToSteep 27 = .ok (.iload_n 3, 1) := by decide +kernel
theorem dX12_bestToSteep_28 : decode cX12_bestToSteep 28 = .ok (.invokevirtual 178, 3) := by decide +kernel
theorem dX12_bestToSteep_31 : decode cX12_bestToSteep 31 = .ok (.ifCond .eq 24, 3) := by decide +kernel
theorem dX12_bestToSteep_34 : decode cX12_bestToSteep 34 = .ok (.aload_n 0, 1) := by decide +kernel
theorem dX12_bestToSteep_35 : decode cX12_bestToSteep 35 = .ok (.getfield 26, 3) := by decide +kernel
theorem dX12_bestToSteep_38 : decode cX12_bestToSteep 38 = .ok (.iload_n 3, 1) := by decide +kernel
theorem dX12_bestToSteep_39 : decode cX12_bestToSteep 39 = .ok (.invokevirtual 224, 3) := by decide +kernel
theorem dX12_bestToSteep_42 : decode cX12_bestToSteep 42 = .ok (.istore 4, 2) := by decide +kernel
theorem dX12_bestToSteep_44 : decode cX12_bestToSteep 44 = .ok (.iload 4, 2) := by decide +kernel
theorem dX12_bestToSteep_46 : decode cX12_bestToSteep 46 = .ok (.iload_n 2, 1) := by decide +kernel
theorem dX12_bestToSteep_47 : decode cX12_bestToSteep 47 = .ok (.if_icmp .le 8, 3) := by decide +kernel
theorem dX12_bestToSteep_50 : decode cX12_bestToSteep 50 = .ok (.iload_n 3, 1) := by decide +kernel
theorem dX12_bestToSteep_51 : decode cX12_bestToSteep 51 = .ok (.istore_n 1, 1) := by decide +kernel
theorem dX12_bestToSteep_52 : decode cX12_bestToSteep 52 = .ok (.iload 4, 2) := by decide +kernel
theorem dX12_bestToSteep_54 : decode cX12_bestToSteep 54 = .ok (.istore_n 2, 1) := by decide +kernel
theorem dX12_bestToSteep_55 : decode cX12_bestToSteep 55 = .ok (.iinc 3 1, 3) := by decide +kernel
theorem dX12_bestToSteep_58 : decode cX12_bestToSteep 58 = .ok (.goto (-52), 3) := by decide +kernel
theorem dX12_bestToSteep_61 : decode cX12_bestToSteep 61 = .ok (.iload_n 1, 1) := by decide +kernel
theorem dX12_bestToSteep_62 : decode cX12_bestToSteep 62 = .ok (.ireturn, 1) := by decide +kernel
theorem dX12_meanForce_0 : decode cX12_meanForce 0 = .ok (.iconst 0, 1) := by decide +kernel
theorem dX12_meanForce_1 : decode cX12_meanForce 1 = .ok (.istore_n 1, 1) := by decide +kernel
theorem dX12_meanForce_2 : decode cX12_meanForce 2 = .ok (.iconst 0, 1) := by decide +kernel
theorem dX12_meanForce_3 : decode cX12_meanForce 3 = .ok (.istore_n 2, 1) := by decide +kernel
theorem dX12_meanForce_4 : decode cX12_meanForce 4 = .ok (.iconst 0, 1) := by decide +kernel
theorem dX12_meanForce_5 : decode cX12_meanForce 5 = .ok (.istore_n 3, 1) := by decide +kernel
theorem dX12_meanForce_6 : decode cX12_meanForce 6 = .ok (.iload_n 3, 1) := by decide +kernel
theorem dX12_meanForce_7 : decode cX12_meanForce 7 = .ok (.aload_n 0, 1) := by decide +kernel
theorem dX12_meanForce_8 : decode cX12_meanForce 8 = .ok (.getfield 26, 3) := by decide +kernel
theorem dX12_meanForce_11 : decode cX12_meanForce 11 = .ok (.getfield 102, 3) := by decide +kernel
theorem dX12_meanForce_14 : decode cX12_meanForce 14 = .ok (.getfield 109, 3) := by decide +kernel
theorem dX12_meanForce_17 : decode cX12_meanForce 17 = .ok (.getfield 113, 3) := by decide +kernel
theorem dX12_meanForce_20 : decode cX12_meanForce 20 = .ok (.if_icmp .ge 41, 3) := by decide +kernel
theorem dX12_meanForce_23 : decode cX12_meanForce 23 = .ok (.aload_n 0, 1) := by decide +kernel
theorem dX12_meanForce_24 : decode cX12_meanForce 24 = .ok (.getfield 26, 3) := by decide +kernel
theorem dX12_meanForce_27 : decode cX12_meanForce 27 = .ok (.iload_n 3, 1) := by decide +kernel
theorem dX12_meanForce_28 : decode cX12_meanForce 28 = .ok (.invokevirtual 178, 3) := by decide +kernel
theorem dX12_meanForce_31 : decode cX12_meanForce 31 = .ok (.ifCond .eq 24, 3) := by decide +kernel
theorem dX12_meanForce_34 : decode cX12_meanForce 34 = .ok (.iload_n 1, 1) := by decide +kernel
theorem dX12_meanForce_35 : decode cX12_meanForce 35 = .ok (.aload_n 0, 1) := by decide +kernel
theorem dX12_meanForce_36 : decode cX12_meanForce 36 = .ok (.getfield 26, 3) := by decide +kernel
theorem dX12_meanForce_39 : decode cX12_meanForce 39 = .ok (.getfield 102, 3) := by decide +kernel
theorem dX12_meanForce_42 : decode cX12_meanForce 42 = .ok (.getfield 109, 3) := by decide +kernel
theorem dX12_meanForce_45 : decode cX12_meanForce 45 = .ok (.getfield 174, 3) := by decide +kernel
theorem dX12_meanForce_48 : decode cX12_meanForce 48 = .ok (.iload_n 3, 1) := by decide +kernel
theorem dX12_meanForce_49 : decode cX12_meanForce 49 = .ok (.iaload, 1) := by decide +kernel
theorem dX12_meanForce_50 : decode cX12_meanForce 50 = .ok (.iadd, 1) := by decide +kernel
theorem dX12_meanForce_51 : decode cX12_meanForce 51 = .ok (.istore_n 1, 1) := by decide +kernel
theorem dX12_meanForce_52 : decode cX12_meanForce 52 = .ok (.iinc 2 1, 3) := by decide +kernel
theorem dX12_meanForce_55 : decode cX12_meanForce 55 = .ok (.iinc 3 1, 3) := by decide +kernel
theorem dX12_meanForce_58 : decode cX12_meanForce 58 = .ok (.goto (-52), 3) := by decide +kernel
theorem dX12_meanForce_61 : decode cX12_meanForce 61 = .ok (.iload_n 2, 1) := by decide +kernel
theorem dX12_meanForce_62 : decode cX12_meanForce 62 = .ok (.ifCond .ne 7, 3) := by decide +kernel
theorem dX12_meanForce_65 : decode cX12_meanForce 65 = .ok (.dconst 0, 1) := by decide +kernel
theorem dX12_meanForce_66 : decode cX12_meanForce 66 = .ok (.goto 8, 3) := by decide +kernel
theorem dX12_meanForce_69 : decode cX12_meanForce 69 = .ok (.iload_n 1, 1) := by decide +kernel
theorem dX12_meanForce_70 : decode cX12_meanForce 70 = .ok (.i2d, 1) := by decide +kernel
theorem dX12_meanForce_71 : decode cX12_meanForce 71 = .ok (.iload_n 2, 1) := by decide +kernel
theorem dX12_meanForce_72 : decode cX12_meanForce 72 = .ok (.i2d, 1) := by decide +kernel
theorem dX12_meanForce_73 : decode cX12_meanForce 73 = .ok (.ddiv, 1) := by decide +kernel
theorem dX12_meanForce_74 : decode cX12_meanForce 74 = .ok (.dreturn, 1) := by decide +kernel
theorem dX12_digest_0 : decode cX12_digest 0 = .ok (.ldc2_w 227, 3) := by decide +kernel
theorem dX12_digest_3 : decode cX12_digest 3 = .ok (.lstore_n 1, 1) := by decide +kernel
theorem dX12_digest_4 : decode cX12_digest 4 = .ok (.lload_n 1, 1) := by decide +kernel
theorem dX12_digest_5 : decode cX12_digest 5 = .ok (.ldc2_w 229, 3) := by decide +kernel
theorem dX12_digest_8 : decode cX12_digest 8 = .ok (.lmul, 1) := by decide +kernel
theorem dX12_digest_9 : decode cX12_digest 9 = .ok (.aload_n 0, 1) := by decide +kernel
theorem dX12_digest_10 : decode cX12_digest 10 = .ok (.invokevirtual 231, 3) := by decide +kernel
theorem dX12_digest_13 : decode cX12_digest 13 = .ok (.i2l, 1) := by decide +kernel
theorem dX12_digest_14 : decode cX12_digest 14 = .ok (.ladd, 1) := by decide +kernel
theorem dX12_digest_15 : decode cX12_digest 15 = .ok (.lstore_n 1, 1) := by decide +kernel
theorem dX12_digest_16 : decode cX12_digest 16 = .ok (.lload_n 1, 1) := by decide +kernel
theorem dX12_digest_17 : decode cX12_digest 17 = .ok (.ldc2_w 229, 3) := by decide +kernel
theorem dX12_digest_20 : decode cX12_digest 20 = .ok (.lmul, 1) := by decide +kernel
theorem dX12_digest_21 : decode cX12_digest 21 = .ok (.aload_n 0, 1) := by decide +kernel
theorem dX12_digest_22 : decode cX12_digest 22 = .ok (.invokevirtual 234, 3) := by decide +kernel
theorem dX12_digest_25 : decode cX12_digest 25 = .ok (.i2l, 1) := by decide +kernel
theorem dX12_digest_26 : decode cX12_digest 26 = .ok (.ladd, 1) := by decide +kernel
theorem dX12_digest_27 : decode cX12_digest 27 = .ok (.lstore_n 1, 1) := by decide +kernel
theorem dX12_digest_28 : decode cX12_digest 28 = .ok (.lload_n 1, 1) := by decide +kernel
theorem dX12_digest_29 : decode cX12_digest 29 = .ok (.ldc2_w 229, 3) := by decide +kernel
theorem dX12_digest_32 : decode cX12_digest 32 = .ok (.lmul, 1) := by decide +kernel
theorem dX12_digest_33 : decode cX12_digest 33 = .ok (.aload_n 0, 1) := by decide +kernel
theorem dX12_digest_34 : decode cX12_digest 34 = .ok (.invokevirtual 236, 3) := by decide +kernel
theorem dX12_digest_37 : decode cX12_digest 37 = .ok (.i2l, 1) := by decide +kernel
theorem dX12_digest_38 : decode cX12_digest 38 = .ok (.ladd, 1) := by decide +kernel
theorem dX12_digest_39 : decode cX12_digest 39 = .ok (.lstore_n 1, 1) := by decide +kernel
theorem dX12_digest_40 : decode cX12_digest 40 = .ok (.lload_n 1, 1) := by decide +kernel
theorem dX12_digest_41 : decode cX12_digest 41 = .ok (.ldc2_w 229, 3) := by decide +kernel
theorem dX12_digest_44 : decode cX12_digest 44 = .ok (.lmul, 1) := by decide +kernel
theorem dX12_digest_45 : decode cX12_digest 45 = .ok (.aload_n 0, 1) := by decide +kernel
theorem dX12_digest_46 : decode cX12_digest 46 = .ok (.invokevirtual 238, 3) := by decide +kernel
theorem dX12_digest_49 : decode cX12_digest 49 = .ok (.i2l, 1) := by decide +kernel
theorem dX12_digest_50 : decode cX12_digest 50 = .ok (.ladd, 1) := by decide +kernel
theorem dX12_digest_51 : decode cX12_digest 51 = .ok (.lstore_n 1, 1) := by decide +kernel
theorem dX12_digest_52 : decode cX12_digest 52 = .ok (.lload_n 1, 1) := by decide +kernel
theorem dX12_digest_53 : decode cX12_digest 53 = .ok (.ldc2_w 229, 3) := by decide +kernel
theorem dX12_digest_56 : decode cX12_digest 56 = .ok (.lmul, 1) := by decide +kernel
theorem dX12_digest_57 : decode cX12_digest 57 = .ok (.aload_n 0, 1) := by decide +kernel
theorem dX12_digest_58 : decode cX12_digest 58 = .ok (.invokevirtual 240, 3) := by decide +kernel
theorem dX12_digest_61 : decode cX12_digest 61 = .ok (.i2l, 1) := by decide +kernel
theorem dX12_digest_62 : decode cX12_digest 62 = .ok (.ladd, 1) := by decide +kernel
theorem dX12_digest_63 : decode cX12_digest 63 = .ok (.lstore_n 1, 1) := by decide +kernel
theorem dX12_digest_64 : decode cX12_digest 64 = .ok (.lload_n 1, 1) := by decide +kernel
theorem dX12_digest_65 : decode cX12_digest 65 = .ok (.ldc2_w 229, 3) := by decide +kernel
theorem dX12_digest_68 : decode cX12_digest 68 = .ok (.lmul, 1) := by decide +kernel
theorem dX12_digest_69 : decode cX12_digest 69 = .ok (.aload_n 0, 1) := by decide +kernel
theorem dX12_digest_70 : decode cX12_digest 70 = .ok (.invokevirtual 242, 3) := by decide +kernel
theorem dX12_digest_73 : decode cX12_digest 73 = .ok (.i2l, 1) := by decide +kernel
theorem dX12_digest_74 : decode cX12_digest 74 = .ok (.ladd, 1) := by decide +kernel
theorem dX12_digest_75 : decode cX12_digest 75 = .ok (.lstore_n 1, 1) := by decide +kernel
theorem dX12_digest_76 : decode cX12_digest 76 = .ok (.lload_n 1, 1) := by decide +kernel
theorem dX12_digest_77 : decode cX12_digest 77 = .ok (.ldc2_w 229, 3) := by decide +kernel
theorem dX12_digest_80 : decode cX12_digest 80 = .ok (.lmul, 1) := by decide +kernel
theorem dX12_digest_81 : decode cX12_digest 81 = .ok (.aload_n 0, 1) := by decide +kernel
theorem dX12_digest_82 : decode cX12_digest 82 = .ok (.invokevirtual 244, 3) := by decide +kernel
theorem dX12_digest_85 : decode cX12_digest 85 = .ok (.i2l, 1) := by decide +kernel
theorem dX12_digest_86 : decode cX12_digest 86 = .ok (.ladd, 1) := by decide +kernel
theorem dX12_digest_87 : decode cX12_digest 87 = .ok (.lstore_n 1, 1) := by decide +kernel
theorem dX12_digest_88 : decode cX12_digest 88 = .ok (.lload_n 1, 1) := by decide +kernel
theorem dX12_digest_89 : decode cX12_digest 89 = .ok (.ldc2_w 229, 3) := by decide +kernel
theorem dX12_digest_92 : decode cX12_digest 92 = .ok (.lmul, 1) := by decide +kernel
theorem dX12_digest_93 : decode cX12_digest 93 = .ok (.aload_n 0, 1) := by decide +kernel
theorem dX12_digest_94 : decode cX12_digest 94 = .ok (.invokevirtual 246, 3) := by decide +kernel
theorem dX12_digest_97 : decode cX12_digest 97 = .ok (.i2l, 1) := by decide +kernel
theorem dX12_digest_98 : decode cX12_digest 98 = .ok (.ladd, 1) := by decide +kernel
theorem dX12_digest_99 : decode cX12_digest 99 = .ok (.lstore_n 1, 1) := by decide +kernel
theorem dX12_digest_100 : decode cX12_digest 100 = .ok (.lload_n 1, 1) := by decide +kernel
theorem dX12_digest_101 : decode cX12_digest 101 = .ok (.ldc2_w 229, 3) := by decide +kernel
theorem dX12_digest_104 : decode cX12_digest 104 = .ok (.lmul, 1) := by decide +kernel
theorem dX12_digest_105 : decode cX12_digest 105 = .ok (.aload_n 0, 1) := by decide +kernel
theorem dX12_digest_106 : decode cX12_digest 106 = .ok (.invokevirtual 248, 3) := by decide +kernel
theorem dX12_digest_109 : decode cX12_digest 109 = .ok (.i2l, 1) := by decide +kernel
theorem dX12_digest_110 : decode cX12_digest 110 = .ok (.ladd, 1) := by decide +kernel
theorem dX12_digest_111 : decode cX12_digest 111 = .ok (.lstore_n 1, 1) := by decide +kernel
theorem dX12_digest_112 : decode cX12_digest 112 = .ok (.lload_n 1, 1) := by decide +kernel
theorem dX12_digest_113 : decode cX12_digest 113 = .ok (.ldc2_w 229, 3) := by decide +kernel
theorem dX12_digest_116 : decode cX12_digest 116 = .ok (.lmul, 1) := by decide +kernel
theorem dX12_digest_117 : decode cX12_digest 117 = .ok (.aload_n 0, 1) := by decide +kernel
theorem dX12_digest_118 : decode cX12_digest 118 = .ok (.invokevirtual 250, 3) := by decide +kernel
theorem dX12_digest_121 : decode cX12_digest 121 = .ok (.i2l, 1) := by decide +kernel
theorem dX12_digest_122 : decode cX12_digest 122 = .ok (.ladd, 1) := by decide +kernel
theorem dX12_digest_123 : decode cX12_digest 123 = .ok (.lstore_n 1, 1) := by decide +kernel
theorem dX12_digest_124 : decode cX12_digest 124 = .ok (.lload_n 1, 1) := by decide +kernel
theorem dX12_digest_125 : decode cX12_digest 125 = .ok (.ldc2_w 229, 3) := by decide +kernel
theorem dX12_digest_128 : decode cX12_digest 128 = .ok (.lmul, 1) := by decide +kernel
theorem dX12_digest_129 : decode cX12_digest 129 = .ok (.aload_n 0, 1) := by decide +kernel
theorem dX12_digest_130 : decode cX12_digest 130 = .ok (.invokevirtual 252, 3) := by decide +kernel
theorem dX12_digest_133 : decode cX12_digest 133 = .ok (.i2l, 1) := by decide +kernel
theorem dX12_digest_134 : decode cX12_digest 134 = .ok (.ladd, 1) := by decide +kernel
theorem dX12_digest_135 : decode cX12_digest 135 = .ok (.lstore_n 1, 1) := by decide +kernel
theorem dX12_digest_136 : decode cX12_digest 136 = .ok (.lload_n 1, 1) := by decide +kernel
theorem dX12_digest_137 : decode cX12_digest 137 = .ok (.ldc2_w 229, 3) := by decide +kernel
theorem dX12_digest_140 : decode cX12_digest 140 = .ok (.lmul, 1) := by decide +kernel
theorem dX12_digest_141 : decode cX12_digest 141 = .ok (.aload_n 0, 1) := by decide +kernel
theorem dX12_digest_142 : decode cX12_digest 142 = .ok (.invokevirtual 255, 3) := by decide +kernel
theorem dX12_digest_145 : decode cX12_digest 145 = .ok (.i2l, 1) := by decide +kernel
theorem dX12_digest_146 : decode cX12_digest 146 = .ok (.ladd, 1) := by decide +kernel
theorem dX12_digest_147 : decode cX12_digest 147 = .ok (.lstore_n 1, 1) := by decide +kernel
theorem dX12_digest_148 : decode cX12_digest 148 = .ok (.lload_n 1, 1) := by decide +kernel
theorem dX12_digest_149 : decode cX12_digest 149 = .ok (.ldc2_w 229, 3) := by decide +kernel
theorem dX12_digest_152 : decode cX12_digest 152 = .ok (.lmul, 1) := by decide +kernel
theorem dX12_digest_153 : decode cX12_digest 153 = .ok (.aload_n 0, 1) := by decide +kernel
theorem dX12_digest_154 : decode cX12_digest 154 = .ok (.invokevirtual 258, 3) := by decide +kernel
theorem dX12_digest_157 : decode cX12_digest 157 = .ok (.i2l, 1) := by decide +kernel
theorem dX12_digest_158 : decode cX12_digest 158 = .ok (.ladd, 1) := by decide +kernel
theorem dX12_digest_159 : decode cX12_digest 159 = .ok (.lstore_n 1, 1) := by decide +kernel
theorem dX12_digest_160 : decode cX12_digest 160 = .ok (.lload_n 1, 1) := by decide +kernel
theorem dX12_digest_161 : decode cX12_digest 161 = .ok (.ldc2_w 229, 3) := by decide +kernel
theorem dX12_digest_164 : decode cX12_digest 164 = .ok (.lmul, 1) := by decide +kernel
theorem dX12_digest_165 : decode cX12_digest 165 = .ok (.aload_n 0, 1) := by decide +kernel
theorem dX12_digest_166 : decode cX12_digest 166 = .ok (.invokevirtual 261, 3) := by decide +kernel
theorem dX12_digest_169 : decode cX12_digest 169 = .ok (.i2l, 1) := by decide +kernel
theorem dX12_digest_170 : decode cX12_digest 170 = .ok (.ladd, 1) := by decide +kernel
theorem dX12_digest_171 : decode cX12_digest 171 = .ok (.lstore_n 1, 1) := by decide +kernel
theorem dX12_digest_172 : decode cX12_digest 172 = .ok (.iconst 0, 1) := by decide +kernel
theorem dX12_digest_173 : decode cX12_digest 173 = .ok (.istore_n 3, 1) := by decide +kernel
theorem dX12_digest_174 : decode cX12_digest 174 = .ok (.iload_n 3, 1) := by decide +kernel
theorem dX12_digest_175 : decode cX12_digest 175 = .ok (.aload_n 0, 1) := by decide +kernel
theorem dX12_digest_176 : decode cX12_digest 176 = .ok (.getfield 26, 3) := by decide +kernel
theorem dX12_digest_179 : decode cX12_digest 179 = .ok (.getfield 102, 3) := by decide +kernel
theorem dX12_digest_182 : decode cX12_digest 182 = .ok (.getfield 109, 3) := by decide +kernel
theorem dX12_digest_185 : decode cX12_digest 185 = .ok (.getfield 113, 3) := by decide +kernel
theorem dX12_digest_188 : decode cX12_digest 188 = .ok (.if_icmp .ge 48, 3) := by decide +kernel
theorem dX12_digest_191 : decode cX12_digest 191 = .ok (.lload_n 1, 1) := by decide +kernel
theorem dX12_digest_192 : decode cX12_digest 192 = .ok (.ldc2_w 229, 3) := by decide +kernel
theorem dX12_digest_195 : decode cX12_digest 195 = .ok (.lmul, 1) := by decide +kernel
theorem dX12_digest_196 : decode cX12_digest 196 = .ok (.aload_n 0, 1) := by decide +kernel
theorem dX12_digest_197 : decode cX12_digest 197 = .ok (.getfield 26, 3) := by decide +kernel
theorem dX12_digest_200 : decode cX12_digest 200 = .ok (.iload_n 3, 1) := by decide +kernel
theorem dX12_digest_201 : decode cX12_digest 201 = .ok (.invokevirtual 178, 3) := by decide +kernel
theorem dX12_digest_204 : decode cX12_digest 204 = .ok (.invokestatic 153, 3) := by decide +kernel
theorem dX12_digest_207 : decode cX12_digest 207 = .ok (.i2l, 1) := by decide +kernel
theorem dX12_digest_208 : decode cX12_digest 208 = .ok (.ladd, 1) := by decide +kernel
theorem dX12_digest_209 : decode cX12_digest 209 = .ok (.lstore_n 1, 1) := by decide +kernel
theorem dX12_digest_210 : decode cX12_digest 210 = .ok (.lload_n 1, 1) := by decide +kernel
theorem dX12_digest_211 : decode cX12_digest 211 = .ok (.ldc2_w 229, 3) := by decide +kernel
theorem dX12_digest_214 : decode cX12_digest 214 = .ok (.lmul, 1) := by decide +kernel
theorem dX12_digest_215 : decode cX12_digest 215 = .ok (.aload_n 0, 1) := by decide +kernel
theorem dX12_digest_216 : decode cX12_digest 216 = .ok (.getfield 26, 3) := by decide +kernel
theorem dX12_digest_219 : decode cX12_digest 219 = .ok (.getfield 181, 3) := by decide +kernel
theorem dX12_digest_222 : decode cX12_digest 222 = .ok (.iload_n 3, 1) := by decide +kernel
theorem dX12_digest_223 : decode cX12_digest 223 = .ok (.baload, 1) := by decide +kernel
theorem dX12_digest_224 : decode cX12_digest 224 = .ok (.invokestatic 153, 3) := by decide +kernel
theorem dX12_digest_227 : decode cX12_digest 227 = .ok (.i2l, 1) := by decide +kernel
theorem dX12_digest_228 : decode cX12_digest 228 = .ok (.ladd, 1) := by decide +kernel
theorem dX12_digest_229 : decode cX12_digest 229 = .ok (.lstore_n 1, 1) := by decide +kernel
theorem dX12_digest_230 : decode cX12_digest 230 = .ok (.iinc 3 1, 3) := by decide +kernel
theorem dX12_digest_233 : decode cX12_digest 233 = .ok (.goto (-59), 3) := by decide +kernel
theorem dX12_digest_236 : decode cX12_digest 236 = .ok (.iconst 0, 1) := by decide +kernel
theorem dX12_digest_237 : decode cX12_digest 237 = .ok (.istore_n 3, 1) := by decide +kernel
theorem dX12_digest_238 : decode cX12_digest 238 = .ok (.iload_n 3, 1) := by decide +kernel
theorem dX12_digest_239 : decode cX12_digest 239 = .ok (.aload_n 0, 1) := by decide +kernel
theorem dX12_digest_240 : decode cX12_digest 240 = .ok (.getfield 26, 3) := by decide +kernel
theorem dX12_digest_243 : decode cX12_digest 243 = .ok (.getfield 102, 3) := by decide +kernel
theorem dX12_digest_246 : decode cX12_digest 246 = .ok (.getfield 118, 3) := by decide +kernel
theorem dX12_digest_249 : decode cX12_digest 249 = .ok (.getfield 122, 3) := by decide +kernel
theorem dX12_digest_252 : decode cX12_digest 252 = .ok (.if_icmp .ge 94, 3) := by decide +kernel
theorem dX12_digest_255 : decode cX12_digest 255 = .ok (.lload_n 1, 1) := by decide +kernel
theorem dX12_digest_256 : decode cX12_digest 256 = .ok (.ldc2_w 229, 3) := by decide +kernel
theorem dX12_digest_259 : decode cX12_digest 259 = .ok (.lmul, 1) := by decide +kernel
theorem dX12_digest_260 : decode cX12_digest 260 = .ok (.aload_n 0, 1) := by decide +kernel
theorem dX12_digest_261 : decode cX12_digest 261 = .ok (.getfield 26, 3) := by decide +kernel
theorem dX12_digest_264 : decode cX12_digest 264 = .ok (.iload_n 3, 1) := by decide +kernel
theorem dX12_digest_265 : decode cX12_digest 265 = .ok (.invokevirtual 149, 3) := by decide +kernel
theorem dX12_digest_268 : decode cX12_digest 268 = .ok (.invokestatic 153, 3) := by decide +kernel
theorem dX12_digest_271 : decode cX12_digest 271 = .ok (.i2l, 1) := by decide +kernel
theorem dX12_digest_272 : decode cX12_digest 272 = .ok (.ladd, 1) := by decide +kernel
theorem dX12_digest_273 : decode cX12_digest 273 = .ok (.lstore_n 1, 1) := by decide +kernel
theorem dX12_digest_274 : decode cX12_digest 274 = .ok (.lload_n 1, 1) := by decide +kernel
theorem dX12_digest_275 : decode cX12_digest 275 = .ok (.ldc2_w 229, 3) := by decide +kernel
theorem dX12_digest_278 : decode cX12_digest 278 = .ok (.lmul, 1) := by decide +kernel
theorem dX12_digest_279 : decode cX12_digest 279 = .ok (.aload_n 0, 1) := by decide +kernel
theorem dX12_digest_280 : decode cX12_digest 280 = .ok (.getfield 26, 3) := by decide +kernel
theorem dX12_digest_283 : decode cX12_digest 283 = .ok (.iload_n 3, 1) := by decide +kernel
theorem dX12_digest_284 : decode cX12_digest 284 = .ok (.aload_n 0, 1) := by decide +kernel
theorem dX12_digest_285 : decode cX12_digest 285 = .ok (.getfield 26, 3) := by decide +kernel
theorem dX12_digest_288 : decode cX12_digest 288 = .ok (.getfield 131, 3) := by decide +kernel
