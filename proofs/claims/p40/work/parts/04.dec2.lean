theorem dX12_digest_291 : decode cX12_digest 291 = .ok (.invokevirtual 187, 3) := by decide +kernel
theorem dX12_digest_294 : decode cX12_digest 294 = .ok (.invokestatic 153, 3) := by decide +kernel
theorem dX12_digest_297 : decode cX12_digest 297 = .ok (.i2l, 1) := by decide +kernel
theorem dX12_digest_298 : decode cX12_digest 298 = .ok (.ladd, 1) := by decide +kernel
theorem dX12_digest_299 : decode cX12_digest 299 = .ok (.lstore_n 1, 1) := by decide +kernel
theorem dX12_digest_300 : decode cX12_digest 300 = .ok (.lload_n 1, 1) := by decide +kernel
theorem dX12_digest_301 : decode cX12_digest 301 = .ok (.ldc2_w 229, 3) := by decide +kernel
theorem dX12_digest_304 : decode cX12_digest 304 = .ok (.lmul, 1) := by decide +kernel
theorem dX12_digest_305 : decode cX12_digest 305 = .ok (.aload_n 0, 1) := by decide +kernel
theorem dX12_digest_306 : decode cX12_digest 306 = .ok (.getfield 26, 3) := by decide +kernel
theorem dX12_digest_309 : decode cX12_digest 309 = .ok (.getfield 157, 3) := by decide +kernel
theorem dX12_digest_312 : decode cX12_digest 312 = .ok (.iload_n 3, 1) := by decide +kernel
theorem dX12_digest_313 : decode cX12_digest 313 = .ok (.baload, 1) := by decide +kernel
theorem dX12_digest_314 : decode cX12_digest 314 = .ok (.invokestatic 153, 3) := by decide +kernel
theorem dX12_digest_317 : decode cX12_digest 317 = .ok (.i2l, 1) := by decide +kernel
theorem dX12_digest_318 : decode cX12_digest 318 = .ok (.ladd, 1) := by decide +kernel
theorem dX12_digest_319 : decode cX12_digest 319 = .ok (.lstore_n 1, 1) := by decide +kernel
theorem dX12_digest_320 : decode cX12_digest 320 = .ok (.lload_n 1, 1) := by decide +kernel
theorem dX12_digest_321 : decode cX12_digest 321 = .ok (.ldc2_w 229, 3) := by decide +kernel
theorem dX12_digest_324 : decode cX12_digest 324 = .ok (.lmul, 1) := by decide +kernel
theorem dX12_digest_325 : decode cX12_digest 325 = .ok (.aload_n 0, 1) := by decide +kernel
theorem dX12_digest_326 : decode cX12_digest 326 = .ok (.getfield 26, 3) := by decide +kernel
theorem dX12_digest_329 : decode cX12_digest 329 = .ok (.getfield 165, 3) := by decide +kernel
theorem dX12_digest_332 : decode cX12_digest 332 = .ok (.iload_n 3, 1) := by decide +kernel
theorem dX12_digest_333 : decode cX12_digest 333 = .ok (.baload, 1) := by decide +kernel
theorem dX12_digest_334 : decode cX12_digest 334 = .ok (.invokestatic 153, 3) := by decide +kernel
theorem dX12_digest_337 : decode cX12_digest 337 = .ok (.i2l, 1) := by decide +kernel
theorem dX12_digest_338 : decode cX12_digest 338 = .ok (.ladd, 1) := by decide +kernel
theorem dX12_digest_339 : decode cX12_digest 339 = .ok (.lstore_n 1, 1) := by decide +kernel
theorem dX12_digest_340 : decode cX12_digest 340 = .ok (.iinc 3 1, 3) := by decide +kernel
theorem dX12_digest_343 : decode cX12_digest 343 = .ok (.goto (-105), 3) := by decide +kernel
theorem dX12_digest_346 : decode cX12_digest 346 = .ok (.lload_n 1, 1) := by decide +kernel
theorem dX12_digest_347 : decode cX12_digest 347 = .ok (.lreturn, 1) := by decide +kernel
theorem dX12_requireFront_0 : decode cX12_requireFront 0 = .ok (.aload_n 0, 1) := by decide +kernel
theorem dX12_requireFront_1 : decode cX12_requireFront 1 = .ok (.getfield 26, 3) := by decide +kernel
theorem dX12_requireFront_4 : decode cX12_requireFront 4 = .ok (.getfield 102, 3) := by decide +kernel
theorem dX12_requireFront_7 : decode cX12_requireFront 7 = .ok (.getfield 109, 3) := by decide +kernel
theorem dX12_requireFront_10 : decode cX12_requireFront 10 = .ok (.iload_n 1, 1) := by decide +kernel
theorem dX12_requireFront_11 : decode cX12_requireFront 11 = .ok (.invokevirtual 264, 3) := by decide +kernel
theorem dX12_requireFront_14 : decode cX12_requireFront 14 = .ok (.ifCond .ne 14, 3) := by decide +kernel
theorem dX12_requireFront_17 : decode cX12_requireFront 17 = .ok (.new 267, 3) := by decide +kernel
theorem dX12_requireFront_20 : decode cX12_requireFront 20 = .ok (.dup, 1) := by decide +kernel
theorem dX12_requireFront_21 : decode cX12_requireFront 21 = .ok (.ldc_w 269, 3) := by decide +kernel
theorem dX12_requireFront_24 : decode cX12_requireFront 24 = .ok (.invokespecial 271, 3) := by decide +kernel
theorem dX12_requireFront_27 : decode cX12_requireFront 27 = .ok (.athrow, 1) := by decide +kernel
theorem dX12_requireFront_28 : decode cX12_requireFront 28 = .ok (.return_, 1) := by decide +kernel
theorem dX12_requireGuest_0 : decode cX12_requireGuest 0 = .ok (.aload_n 0, 1) := by decide +kernel
theorem dX12_requireGuest_1 : decode cX12_requireGuest 1 = .ok (.getfield 26, 3) := by decide +kernel
theorem dX12_requireGuest_4 : decode cX12_requireGuest 4 = .ok (.getfield 102, 3) := by decide +kernel
theorem dX12_requireGuest_7 : decode cX12_requireGuest 7 = .ok (.getfield 118, 3) := by decide +kernel
theorem dX12_requireGuest_10 : decode cX12_requireGuest 10 = .ok (.iload_n 1, 1) := by decide +kernel
theorem dX12_requireGuest_11 : decode cX12_requireGuest 11 = .ok (.invokevirtual 272, 3) := by decide +kernel
theorem dX12_requireGuest_14 : decode cX12_requireGuest 14 = .ok (.ifCond .ne 14, 3) := by decide +kernel
theorem dX12_requireGuest_17 : decode cX12_requireGuest 17 = .ok (.new 267, 3) := by decide +kernel
theorem dX12_requireGuest_20 : decode cX12_requireGuest 20 = .ok (.dup, 1) := by decide +kernel
theorem dX12_requireGuest_21 : decode cX12_requireGuest 21 = .ok (.ldc_w 273, 3) := by decide +kernel
theorem dX12_requireGuest_24 : decode cX12_requireGuest 24 = .ok (.invokespecial 271, 3) := by decide +kernel
theorem dX12_requireGuest_27 : decode cX12_requireGuest 27 = .ok (.athrow, 1) := by decide +kernel
theorem dX12_requireGuest_28 : decode cX12_requireGuest 28 = .ok (.return_, 1) := by decide +kernel
theorem dX12_requireHours_0 : decode cX12_requireHours 0 = .ok (.iload_n 0, 1) := by decide +kernel
theorem dX12_requireHours_1 : decode cX12_requireHours 1 = .ok (.iconst 1, 1) := by decide +kernel
theorem dX12_requireHours_2 : decode cX12_requireHours 2 = .ok (.if_icmp .lt 9, 3) := by decide +kernel
theorem dX12_requireHours_5 : decode cX12_requireHours 5 = .ok (.iload_n 0, 1) := by decide +kernel
theorem dX12_requireHours_6 : decode cX12_requireHours 6 = .ok (.bipush 30, 2) := by decide +kernel
theorem dX12_requireHours_8 : decode cX12_requireHours 8 = .ok (.if_icmp .le 14, 3) := by decide +kernel
theorem dX12_requireHours_11 : decode cX12_requireHours 11 = .ok (.new 58, 3) := by decide +kernel
theorem dX12_requireHours_14 : decode cX12_requireHours 14 = .ok (.dup, 1) := by decide +kernel
theorem dX12_requireHours_15 : decode cX12_requireHours 15 = .ok (.ldc_w 275, 3) := by decide +kernel
theorem dX12_requireHours_18 : decode cX12_requireHours 18 = .ok (.invokespecial 62, 3) := by decide +kernel
theorem dX12_requireHours_21 : decode cX12_requireHours 21 = .ok (.athrow, 1) := by decide +kernel
theorem dX12_requireHours_22 : decode cX12_requireHours 22 = .ok (.return_, 1) := by decide +kernel
theorem dX12_oneIf_0 : decode cX12_oneIf 0 = .ok (.iload_n 0, 1) := by decide +kernel
theorem dX12_oneIf_1 : decode cX12_oneIf 1 = .ok (.ifCond .eq 7, 3) := by decide +kernel
theorem dX12_oneIf_4 : decode cX12_oneIf 4 = .ok (.iconst 1, 1) := by decide +kernel
theorem dX12_oneIf_5 : decode cX12_oneIf 5 = .ok (.goto 4, 3) := by decide +kernel
theorem dX12_oneIf_8 : decode cX12_oneIf 8 = .ok (.iconst 0, 1) := by decide +kernel
theorem dX12_oneIf_9 : decode cX12_oneIf 9 = .ok (.ireturn, 1) := by decide +kernel
theorem dX12_countTrue_0 : decode cX12_countTrue 0 = .ok (.iconst 0, 1) := by decide +kernel
theorem dX12_countTrue_1 : decode cX12_countTrue 1 = .ok (.istore_n 2, 1) := by decide +kernel
theorem dX12_countTrue_2 : decode cX12_countTrue 2 = .ok (.iconst 0, 1) := by decide +kernel
theorem dX12_countTrue_3 : decode cX12_countTrue 3 = .ok (.istore_n 3, 1) := by decide +kernel
theorem dX12_countTrue_4 : decode cX12_countTrue 4 = .ok (.iload_n 3, 1) := by decide +kernel
theorem dX12_countTrue_5 : decode cX12_countTrue 5 = .ok (.iload_n 1, 1) := by decide +kernel
theorem dX12_countTrue_6 : decode cX12_countTrue 6 = .ok (.if_icmp .ge 24, 3) := by decide +kernel
theorem dX12_countTrue_9 : decode cX12_countTrue 9 = .ok (.iload_n 3, 1) := by decide +kernel
theorem dX12_countTrue_10 : decode cX12_countTrue 10 = .ok (.aload_n 0, 1) := by decide +kernel
theorem dX12_countTrue_11 : decode cX12_countTrue 11 = .ok (.arraylength, 1) := by decide +kernel
theorem dX12_countTrue_12 : decode cX12_countTrue 12 = .ok (.if_icmp .ge 18, 3) := by decide +kernel
theorem dX12_countTrue_15 : decode cX12_countTrue 15 = .ok (.iload_n 2, 1) := by decide +kernel
theorem dX12_countTrue_16 : decode cX12_countTrue 16 = .ok (.aload_n 0, 1) := by decide +kernel
theorem dX12_countTrue_17 : decode cX12_countTrue 17 = .ok (.iload_n 3, 1) := by decide +kernel
theorem dX12_countTrue_18 : decode cX12_countTrue 18 = .ok (.baload, 1) := by decide +kernel
theorem dX12_countTrue_19 : decode cX12_countTrue 19 = .ok (.invokestatic 153, 3) := by decide +kernel
theorem dX12_countTrue_22 : decode cX12_countTrue 22 = .ok (.iadd, 1) := by decide +kernel
theorem dX12_countTrue_23 : decode cX12_countTrue 23 = .ok (.istore_n 2, 1) := by decide +kernel
theorem dX12_countTrue_24 : decode cX12_countTrue 24 = .ok (.iinc 3 1, 3) := by decide +kernel
theorem dX12_countTrue_27 : decode cX12_countTrue 27 = .ok (.goto (-23), 3) := by decide +kernel
theorem dX12_countTrue_30 : decode cX12_countTrue 30 = .ok (.iload_n 2, 1) := by decide +kernel
theorem dX12_countTrue_31 : decode cX12_countTrue 31 = .ok (.ireturn, 1) := by decide +kernel
theorem dX13_init_0 : decode cX13_init 0 = .ok (.aload_n 0, 1) := by decide +kernel
theorem dX13_init_1 : decode cX13_init 1 = .ok (.invokespecial 1, 3) := by decide +kernel
theorem dX13_init_4 : decode cX13_init 4 = .ok (.aload_n 0, 1) := by decide +kernel
theorem dX13_init_5 : decode cX13_init 5 = .ok (.iload_n 1, 1) := by decide +kernel
theorem dX13_init_6 : decode cX13_init 6 = .ok (.putfield 7, 3) := by decide +kernel
theorem dX13_init_9 : decode cX13_init 9 = .ok (.return_, 1) := by decide +kernel
theorem dX13_next_0 : decode cX13_next 0 = .ok (.aload_n 0, 1) := by decide +kernel
theorem dX13_next_1 : decode cX13_next 1 = .ok (.aload_n 0, 1) := by decide +kernel
theorem dX13_next_2 : decode cX13_next 2 = .ok (.getfield 7, 3) := by decide +kernel
theorem dX13_next_5 : decode cX13_next 5 = .ok (.ldc 13, 2) := by decide +kernel
theorem dX13_next_7 : decode cX13_next 7 = .ok (.imul, 1) := by decide +kernel
theorem dX13_next_8 : decode cX13_next 8 = .ok (.sipush 12345, 3) := by decide +kernel
theorem dX13_next_11 : decode cX13_next 11 = .ok (.iadd, 1) := by decide +kernel
theorem dX13_next_12 : decode cX13_next 12 = .ok (.putfield 7, 3) := by decide +kernel
theorem dX13_next_15 : decode cX13_next 15 = .ok (.aload_n 0, 1) := by decide +kernel
theorem dX13_next_16 : decode cX13_next 16 = .ok (.getfield 7, 3) := by decide +kernel
theorem dX13_next_19 : decode cX13_next 19 = .ok (.bipush 9, 2) := by decide +kernel
theorem dX13_next_21 : decode cX13_next 21 = .ok (.ishr, 1) := by decide +kernel
theorem dX13_next_22 : decode cX13_next 22 = .ok (.iload_n 1, 1) := by decide +kernel
theorem dX13_next_23 : decode cX13_next 23 = .ok (.invokestatic 14, 3) := by decide +kernel
theorem dX13_next_26 : decode cX13_next 26 = .ok (.ireturn, 1) := by decide +kernel
theorem dX14_init_0 : decode cX14_init 0 = .ok (.aload_n 0, 1) := by decide +kernel
theorem dX14_init_1 : decode cX14_init 1 = .ok (.invokespecial 1, 3) := by decide +kernel
theorem dX14_init_4 : decode cX14_init 4 = .ok (.return_, 1) := by decide +kernel
theorem dX15_init_0 : decode cX15_init 0 = .ok (.aload_n 0, 1) := by decide +kernel
theorem dX15_init_1 : decode cX15_init 1 = .ok (.invokespecial 1, 3) := by decide +kernel
theorem dX15_init_4 : decode cX15_init 4 = .ok (.return_, 1) := by decide +kernel
theorem dX16_init_0 : decode cX16_init 0 = .ok (.aload_n 0, 1) := by decide +kernel
theorem dX16_init_1 : decode cX16_init 1 = .ok (.invokespecial 1, 3) := by decide +kernel
theorem dX16_init_4 : decode cX16_init 4 = .ok (.aload_n 0, 1) := by decide +kernel
theorem dX16_init_5 : decode cX16_init 5 = .ok (.iload_n 1, 1) := by decide +kernel
theorem dX16_init_6 : decode cX16_init 6 = .ok (.putfield 7, 3) := by decide +kernel
theorem dX16_init_9 : decode cX16_init 9 = .ok (.aload_n 0, 1) := by decide +kernel
theorem dX16_init_10 : decode cX16_init 10 = .ok (.iload_n 2, 1) := by decide +kernel
theorem dX16_init_11 : decode cX16_init 11 = .ok (.putfield 13, 3) := by decide +kernel
theorem dX16_init_14 : decode cX16_init 14 = .ok (.aload_n 0, 1) := by decide +kernel
theorem dX16_init_15 : decode cX16_init 15 = .ok (.aload_n 3, 1) := by decide +kernel
theorem dX16_init_16 : decode cX16_init 16 = .ok (.putfield 16, 3) := by decide +kernel
theorem dX16_init_19 : decode cX16_init 19 = .ok (.aload_n 0, 1) := by decide +kernel
theorem dX16_init_20 : decode cX16_init 20 = .ok (.aload 4, 2) := by decide +kernel
theorem dX16_init_22 : decode cX16_init 22 = .ok (.putfield 20, 3) := by decide +kernel
theorem dX16_init_25 : decode cX16_init 25 = .ok (.return_, 1) := by decide +kernel
theorem dX16_sum_0 : decode cX16_sum 0 = .ok (.aload_n 0, 1) := by decide +kernel
theorem dX16_sum_1 : decode cX16_sum 1 = .ok (.iload_n 2, 1) := by decide +kernel
theorem dX16_sum_2 : decode cX16_sum 2 = .ok (.ifCond .ne 7, 3) := by decide +kernel
theorem dX16_sum_5 : decode cX16_sum 5 = .ok (.iconst 5, 1) := by decide +kernel
theorem dX16_sum_6 : decode cX16_sum 6 = .ok (.goto 5, 3) := by decide +kernel
theorem dX16_sum_9 : decode cX16_sum 9 = .ok (.bipush 10, 2) := by decide +kernel
theorem dX16_sum_11 : decode cX16_sum 11 = .ok (.invokevirtual 23, 3) := by decide +kernel
theorem dX16_sum_14 : decode cX16_sum 14 = .ok (.istore_n 3, 1) := by decide +kernel
theorem dX16_sum_15 : decode cX16_sum 15 = .ok (.iload_n 3, 1) := by decide +kernel
theorem dX16_sum_16 : decode cX16_sum 16 = .ok (.iconst 2, 1) := by decide +kernel
theorem dX16_sum_17 : decode cX16_sum 17 = .ok (.if_icmp .lt 12, 3) := by decide +kernel
theorem dX16_sum_20 : decode cX16_sum 20 = .ok (.iload_n 3, 1) := by decide +kernel
theorem dX16_sum_21 : decode cX16_sum 21 = .ok (.iconst 3, 1) := by decide +kernel
theorem dX16_sum_22 : decode cX16_sum 22 = .ok (.if_icmp .ge 42, 3) := by decide +kernel
theorem dX16_sum_25 : decode cX16_sum 25 = .ok (.iload_n 1, 1) := by decide +kernel
theorem dX16_sum_26 : decode cX16_sum 26 = .ok (.ifCond .ne 38, 3) := by decide +kernel
theorem dX16_sum_29 : decode cX16_sum 29 = .ok (.new 8, 3) := by decide +kernel
theorem dX16_sum_32 : decode cX16_sum 32 = .ok (.dup, 1) := by decide +kernel
theorem dX16_sum_33 : decode cX16_sum 33 = .ok (.iconst 0, 1) := by decide +kernel
theorem dX16_sum_34 : decode cX16_sum 34 = .ok (.aload_n 0, 1) := by decide +kernel
theorem dX16_sum_35 : decode cX16_sum 35 = .ok (.bipush 7, 2) := by decide +kernel
theorem dX16_sum_37 : decode cX16_sum 37 = .ok (.invokevirtual 23, 3) := by decide +kernel
theorem dX16_sum_40 : decode cX16_sum 40 = .ok (.ifCond .ne 12, 3) := by decide +kernel
theorem dX16_sum_43 : decode cX16_sum 43 = .ok (.aload_n 0, 1) := by decide +kernel
theorem dX16_sum_44 : decode cX16_sum 44 = .ok (.ldc 29, 2) := by decide +kernel
theorem dX16_sum_46 : decode cX16_sum 46 = .ok (.invokevirtual 23, 3) := by decide +kernel
theorem dX16_sum_49 : decode cX16_sum 49 = .ok (.goto 9, 3) := by decide +kernel
theorem dX16_sum_52 : decode cX16_sum 52 = .ok (.aload_n 0, 1) := by decide +kernel
theorem dX16_sum_53 : decode cX16_sum 53 = .ok (.bipush 22, 2) := by decide +kernel
theorem dX16_sum_55 : decode cX16_sum 55 = .ok (.invokevirtual 23, 3) := by decide +kernel
theorem dX16_sum_58 : decode cX16_sum 58 = .ok (.aconst_null, 1) := by decide +kernel
theorem dX16_sum_59 : decode cX16_sum 59 = .ok (.aconst_null, 1) := by decide +kernel
theorem dX16_sum_60 : decode cX16_sum 60 = .ok (.invokespecial 30, 3) := by decide +kernel
theorem dX16_sum_63 : decode cX16_sum 63 = .ok (.areturn, 1) := by decide +kernel
theorem dX16_sum_64 : decode cX16_sum 64 = .ok (.iload_n 3, 1) := by decide +kernel
theorem dX16_sum_65 : decode cX16_sum 65 = .ok (.iconst 2, 1) := by decide +kernel
theorem dX16_sum_66 : decode cX16_sum 66 = .ok (.if_icmp .ne 19, 3) := by decide +kernel
theorem dX16_sum_69 : decode cX16_sum 69 = .ok (.new 8, 3) := by decide +kernel
theorem dX16_sum_72 : decode cX16_sum 72 = .ok (.dup, 1) := by decide +kernel
theorem dX16_sum_73 : decode cX16_sum 73 = .ok (.iconst 2, 1) := by decide +kernel
theorem dX16_sum_74 : decode cX16_sum 74 = .ok (.aload_n 0, 1) := by decide +kernel
theorem dX16_sum_75 : decode cX16_sum 75 = .ok (.iload_n 1, 1) := by decide +kernel
theorem dX16_sum_76 : decode cX16_sum 76 = .ok (.invokevirtual 23, 3) := by decide +kernel
theorem dX16_sum_79 : decode cX16_sum 79 = .ok (.aconst_null, 1) := by decide +kernel
theorem dX16_sum_80 : decode cX16_sum 80 = .ok (.aconst_null, 1) := by decide +kernel
theorem dX16_sum_81 : decode cX16_sum 81 = .ok (.invokespecial 30, 3) := by decide +kernel
theorem dX16_sum_84 : decode cX16_sum 84 = .ok (.areturn, 1) := by decide +kernel
theorem dX16_sum_85 : decode cX16_sum 85 = .ok (.iload_n 3, 1) := by decide +kernel
theorem dX16_sum_86 : decode cX16_sum 86 = .ok (.iconst 5, 1) := by decide +kernel
theorem dX16_sum_87 : decode cX16_sum 87 = .ok (.if_icmp .ge 20, 3) := by decide +kernel
theorem dX16_sum_90 : decode cX16_sum 90 = .ok (.new 8, 3) := by decide +kernel
theorem dX16_sum_93 : decode cX16_sum 93 = .ok (.dup, 1) := by decide +kernel
theorem dX16_sum_94 : decode cX16_sum 94 = .ok (.iconst 1, 1) := by decide +kernel
theorem dX16_sum_95 : decode cX16_sum 95 = .ok (.aload_n 0, 1) := by decide +kernel
theorem dX16_sum_96 : decode cX16_sum 96 = .ok (.bipush 7, 2) := by decide +kernel
theorem dX16_sum_98 : decode cX16_sum 98 = .ok (.invokevirtual 23, 3) := by decide +kernel
theorem dX16_sum_101 : decode cX16_sum 101 = .ok (.aconst_null, 1) := by decide +kernel
theorem dX16_sum_102 : decode cX16_sum 102 = .ok (.aconst_null, 1) := by decide +kernel
theorem dX16_sum_103 : decode cX16_sum 103 = .ok (.invokespecial 30, 3) := by decide +kernel
theorem dX16_sum_106 : decode cX16_sum 106 = .ok (.areturn, 1) := by decide +kernel
theorem dX16_sum_107 : decode cX16_sum 107 = .ok (.iload_n 3, 1) := by decide +kernel
theorem dX16_sum_108 : decode cX16_sum 108 = .ok (.iconst 5, 1) := by decide +kernel
theorem dX16_sum_109 : decode cX16_sum 109 = .ok (.if_icmp .ne 22, 3) := by decide +kernel
theorem dX16_sum_112 : decode cX16_sum 112 = .ok (.new 8, 3) := by decide +kernel
theorem dX16_sum_115 : decode cX16_sum 115 = .ok (.dup, 1) := by decide +kernel
theorem dX16_sum_116 : decode cX16_sum 116 = .ok (.iconst 3, 1) := by decide +kernel
theorem dX16_sum_117 : decode cX16_sum 117 = .ok (.iconst 0, 1) := by decide +kernel
theorem dX16_sum_118 : decode cX16_sum 118 = .ok (.aload_n 0, 1) := by decide +kernel
theorem dX16_sum_119 : decode cX16_sum 119 = .ok (.iload_n 1, 1) := by decide +kernel
theorem dX16_sum_120 : decode cX16_sum 120 = .ok (.iload_n 2, 1) := by decide +kernel
theorem dX16_sum_121 : decode cX16_sum 121 = .ok (.iconst 1, 1) := by decide +kernel
theorem dX16_sum_122 : decode cX16_sum 122 = .ok (.isub, 1) := by decide +kernel
theorem dX16_sum_123 : decode cX16_sum 123 = .ok (.invokestatic 33, 3) := by decide +kernel
theorem dX16_sum_126 : decode cX16_sum 126 = .ok (.aconst_null, 1) := by decide +kernel
theorem dX16_sum_127 : decode cX16_sum 127 = .ok (.invokespecial 30, 3) := by decide +kernel
theorem dX16_sum_130 : decode cX16_sum 130 = .ok (.areturn, 1) := by decide +kernel
theorem dX16_sum_131 : decode cX16_sum 131 = .ok (.aload_n 0, 1) := by decide +kernel
theorem dX16_sum_132 : decode cX16_sum 132 = .ok (.iload_n 1, 1) := by decide +kernel
theorem dX16_sum_133 : decode cX16_sum 133 = .ok (.iload_n 2, 1) := by decide +kernel
theorem dX16_sum_134 : decode cX16_sum 134 = .ok (.iconst 1, 1) := by decide +kernel
theorem dX16_sum_135 : decode cX16_sum 135 = .ok (.isub, 1) := by decide +kernel
theorem dX16_sum_136 : decode cX16_sum 136 = .ok (.invokestatic 33, 3) := by decide +kernel
theorem dX16_sum_139 : decode cX16_sum 139 = .ok (.astore 4, 2) := by decide +kernel
theorem dX16_sum_141 : decode cX16_sum 141 = .ok (.aload_n 0, 1) := by decide +kernel
theorem dX16_sum_142 : decode cX16_sum 142 = .ok (.bipush 6, 2) := by decide +kernel
theorem dX16_sum_144 : decode cX16_sum 144 = .ok (.invokevirtual 23, 3) := by decide +kernel
theorem dX16_sum_147 : decode cX16_sum 147 = .ok (.istore 5, 2) := by decide +kernel
theorem dX16_sum_149 : decode cX16_sum 149 = .ok (.new 8, 3) := by decide +kernel
theorem dX16_sum_152 : decode cX16_sum 152 = .ok (.dup, 1) := by decide +kernel
theorem dX16_sum_153 : decode cX16_sum 153 = .ok (.iconst 4, 1) := by decide +kernel
theorem dX16_sum_154 : decode cX16_sum 154 = .ok (.iload 5, 2) := by decide +kernel
theorem dX16_sum_156 : decode cX16_sum 156 = .ok (.iadd, 1) := by decide +kernel
theorem dX16_sum_157 : decode cX16_sum 157 = .ok (.iconst 0, 1) := by decide +kernel
theorem dX16_sum_158 : decode cX16_sum 158 = .ok (.aload 4, 2) := by decide +kernel
theorem dX16_sum_160 : decode cX16_sum 160 = .ok (.aload_n 0, 1) := by decide +kernel
theorem dX16_sum_161 : decode cX16_sum 161 = .ok (.iload_n 1, 1) := by decide +kernel
theorem dX16_sum_162 : decode cX16_sum 162 = .ok (.iload_n 2, 1) := by decide +kernel
theorem dX16_sum_163 : decode cX16_sum 163 = .ok (.iconst 1, 1) := by decide +kernel
theorem dX16_sum_164 : decode cX16_sum 164 = .ok (.isub, 1) := by decide +kernel
theorem dX16_sum_165 : decode cX16_sum 165 = .ok (.invokestatic 33, 3) := by decide +kernel
theorem dX16_sum_168 : decode cX16_sum 168 = .ok (.invokespecial 30, 3) := by decide +kernel
theorem dX16_sum_171 : decode cX16_sum 171 = .ok (.areturn, 1) := by decide +kernel
theorem dX16_test_0 : decode cX16_test 0 = .ok (.aload_n 0, 1) := by decide +kernel
theorem dX16_test_1 : decode cX16_test 1 = .ok (.iload_n 3, 1) := by decide +kernel
theorem dX16_test_2 : decode cX16_test 2 = .ok (.ifCond .ne 8, 3) := by decide +kernel
theorem dX16_test_5 : decode cX16_test 5 = .ok (.bipush 6, 2) := by decide +kernel
theorem dX16_test_7 : decode cX16_test 7 = .ok (.goto 5, 3) := by decide +kernel
theorem dX16_test_10 : decode cX16_test 10 = .ok (.bipush 9, 2) := by decide +kernel
theorem dX16_test_12 : decode cX16_test 12 = .ok (.invokevirtual 23, 3) := by decide +kernel
theorem dX16_test_15 : decode cX16_test 15 = .ok (.istore 4, 2) := by decide +kernel
theorem dX16_test_17 : decode cX16_test 17 = .ok (.iload 4, 2) := by decide +kernel
theorem dX16_test_19 : decode cX16_test 19 = .ok (.ifCond .ne 24, 3) := by decide +kernel
theorem dX16_test_22 : decode cX16_test 22 = .ok (.iload_n 1, 1) := by decide +kernel
theorem dX16_test_23 : decode cX16_test 23 = .ok (.ifCond .le 20, 3) := by decide +kernel
theorem dX16_test_26 : decode cX16_test 26 = .ok (.new 8, 3) := by decide +kernel
theorem dX16_test_29 : decode cX16_test 29 = .ok (.dup, 1) := by decide +kernel
theorem dX16_test_30 : decode cX16_test 30 = .ok (.bipush 15, 2) := by decide +kernel
theorem dX16_test_32 : decode cX16_test 32 = .ok (.aload_n 0, 1) := by decide +kernel
theorem dX16_test_33 : decode cX16_test 33 = .ok (.iload_n 1, 1) := by decide +kernel
theorem dX16_test_34 : decode cX16_test 34 = .ok (.invokevirtual 23, 3) := by decide +kernel
theorem dX16_test_37 : decode cX16_test 37 = .ok (.aconst_null, 1) := by decide +kernel
theorem dX16_test_38 : decode cX16_test 38 = .ok (.aconst_null, 1) := by decide +kernel
theorem dX16_test_39 : decode cX16_test 39 = .ok (.invokespecial 30, 3) := by decide +kernel
theorem dX16_test_42 : decode cX16_test 42 = .ok (.areturn, 1) := by decide +kernel
theorem dX16_test_43 : decode cX16_test 43 = .ok (.iload 4, 2) := by decide +kernel
theorem dX16_test_45 : decode cX16_test 45 = .ok (.ifCond .le 33, 3) := by decide +kernel
theorem dX16_test_48 : decode cX16_test 48 = .ok (.iload 4, 2) := by decide +kernel
theorem dX16_test_50 : decode cX16_test 50 = .ok (.iconst 3, 1) := by decide +kernel
theorem dX16_test_51 : decode cX16_test 51 = .ok (.if_icmp .ge 27, 3) := by decide +kernel
theorem dX16_test_54 : decode cX16_test 54 = .ok (.iload_n 2, 1) := by decide +kernel
theorem dX16_test_55 : decode cX16_test 55 = .ok (.ifCond .le 23, 3) := by decide +kernel
theorem dX16_test_58 : decode cX16_test 58 = .ok (.new 8, 3) := by decide +kernel
theorem dX16_test_61 : decode cX16_test 61 = .ok (.dup, 1) := by decide +kernel
theorem dX16_test_62 : decode cX16_test 62 = .ok (.bipush 15, 2) := by decide +kernel
theorem dX16_test_64 : decode cX16_test 64 = .ok (.iload 4, 2) := by decide +kernel
theorem dX16_test_66 : decode cX16_test 66 = .ok (.iadd, 1) := by decide +kernel
theorem dX16_test_67 : decode cX16_test 67 = .ok (.aload_n 0, 1) := by decide +kernel
theorem dX16_test_68 : decode cX16_test 68 = .ok (.iload_n 2, 1) := by decide +kernel
theorem dX16_test_69 : decode cX16_test 69 = .ok (.invokevirtual 23, 3) := by decide +kernel
theorem dX16_test_72 : decode cX16_test 72 = .ok (.aconst_null, 1) := by decide +kernel
theorem dX16_test_73 : decode cX16_test 73 = .ok (.aconst_null, 1) := by decide +kernel
theorem dX16_test_74 : decode cX16_test 74 = .ok (.invokespecial 30, 3) := by decide +kernel
theorem dX16_test_77 : decode cX16_test 77 = .ok (.areturn, 1) := by decide +kernel
theorem dX16_test_78 : decode cX16_test 78 = .ok (.iload 4, 2) := by decide +kernel
theorem dX16_test_80 : decode cX16_test 80 = .ok (.bipush 6, 2) := by decide +kernel
theorem dX16_test_82 : decode cX16_test 82 = .ok (.if_icmp .ge 32, 3) := by decide +kernel
theorem dX16_test_85 : decode cX16_test 85 = .ok (.new 8, 3) := by decide +kernel
theorem dX16_test_88 : decode cX16_test 88 = .ok (.dup, 1) := by decide +kernel
theorem dX16_test_89 : decode cX16_test 89 = .ok (.bipush 10, 2) := by decide +kernel
theorem dX16_test_91 : decode cX16_test 91 = .ok (.aload_n 0, 1) := by decide +kernel
theorem dX16_test_92 : decode cX16_test 92 = .ok (.iconst 5, 1) := by decide +kernel
theorem dX16_test_93 : decode cX16_test 93 = .ok (.invokevirtual 23, 3) := by decide +kernel
theorem dX16_test_96 : decode cX16_test 96 = .ok (.iadd, 1) := by decide +kernel
theorem dX16_test_97 : decode cX16_test 97 = .ok (.iconst 0, 1) := by decide +kernel
theorem dX16_test_98 : decode cX16_test 98 = .ok (.aload_n 0, 1) := by decide +kernel
theorem dX16_test_99 : decode cX16_test 99 = .ok (.iload_n 1, 1) := by decide +kernel
theorem dX16_test_100 : decode cX16_test 100 = .ok (.iconst 1, 1) := by decide +kernel
theorem dX16_test_101 : decode cX16_test 101 = .ok (.invokestatic 33, 3) := by decide +kernel
theorem dX16_test_104 : decode cX16_test 104 = .ok (.aload_n 0, 1) := by decide +kernel
theorem dX16_test_105 : decode cX16_test 105 = .ok (.iload_n 1, 1) := by decide +kernel
theorem dX16_test_106 : decode cX16_test 106 = .ok (.iconst 0, 1) := by decide +kernel
theorem dX16_test_107 : decode cX16_test 107 = .ok (.invokestatic 33, 3) := by decide +kernel
theorem dX16_test_110 : decode cX16_test 110 = .ok (.invokespecial 30, 3) := by decide +kernel
theorem dX16_test_113 : decode cX16_test 113 = .ok (.areturn, 1) := by decide +kernel
theorem dX16_test_114 : decode cX16_test 114 = .ok (.aload_n 0, 1) := by decide +kernel
theorem dX16_test_115 : decode cX16_test 115 = .ok (.iload_n 1, 1) := by decide +kernel
theorem dX16_test_116 : decode cX16_test 116 = .ok (.iload_n 2, 1) := by decide +kernel
theorem dX16_test_117 : decode cX16_test 117 = .ok (.iload_n 3, 1) := by decide +kernel
theorem dX16_test_118 : decode cX16_test 118 = .ok (.iconst 1, 1) := by decide +kernel
theorem dX16_test_119 : decode cX16_test 119 = .ok (.isub, 1) := by decide +kernel
theorem dX16_test_120 : decode cX16_test 120 = .ok (.invokestatic 37, 3) := by decide +kernel
theorem dX16_test_123 : decode cX16_test 123 = .ok (.astore 5, 2) := by decide +kernel
theorem dX16_test_125 : decode cX16_test 125 = .ok (.new 8, 3) := by decide +kernel
theorem dX16_test_128 : decode cX16_test 128 = .ok (.dup, 1) := by decide +kernel
theorem dX16_test_129 : decode cX16_test 129 = .ok (.bipush 12, 2) := by decide +kernel
theorem dX16_test_131 : decode cX16_test 131 = .ok (.iload 4, 2) := by decide +kernel
theorem dX16_test_133 : decode cX16_test 133 = .ok (.iadd, 1) := by decide +kernel
theorem dX16_test_134 : decode cX16_test 134 = .ok (.iconst 0, 1) := by decide +kernel
theorem dX16_test_135 : decode cX16_test 135 = .ok (.aload 5, 2) := by decide +kernel
theorem dX16_test_137 : decode cX16_test 137 = .ok (.iload 4, 2) := by decide +kernel
theorem dX16_test_139 : decode cX16_test 139 = .ok (.bipush 6, 2) := by decide +kernel
theorem dX16_test_141 : decode cX16_test 141 = .ok (.if_icmp .ne 7, 3) := by decide +kernel
theorem dX16_test_144 : decode cX16_test 144 = .ok (.aconst_null, 1) := by decide +kernel
theorem dX16_test_145 : decode cX16_test 145 = .ok (.goto 12, 3) := by decide +kernel
theorem dX16_test_148 : decode cX16_test 148 = .ok (.aload_n 0, 1) := by decide +kernel
theorem dX16_test_149 : decode cX16_test 149 = .ok (.iload_n 1, 1) := by decide +kernel
theorem dX16_test_150 : decode cX16_test 150 = .ok (.iload_n 2, 1) := by decide +kernel
theorem dX16_test_151 : decode cX16_test 151 = .ok (.iload_n 3, 1) := by decide +kernel
theorem dX16_test_152 : decode cX16_test 152 = .ok (.iconst 1, 1) := by decide +kernel
theorem dX16_test_153 : decode cX16_test 153 = .ok (.isub, 1) := by decide +kernel
theorem dX16_test_154 : decode cX16_test 154 = .ok (.invokestatic 37, 3) := by decide +kernel
theorem dX16_test_157 : decode cX16_test 157 = .ok (.invokespecial 30, 3) := by decide +kernel
theorem dX16_test_160 : decode cX16_test 160 = .ok (.areturn, 1) := by decide +kernel
theorem dX16_text_0 : decode cX16_text 0 = .ok (.aload_n 0, 1) := by decide +kernel
theorem dX16_text_1 : decode cX16_text 1 = .ok (.getfield 7, 3) := by decide +kernel
theorem dX16_text_4 : decode cX16_text 4 = .ok (.tableswitch 460 0 20 #[100, 123, 132, 155, 181, 227, 460, 460, 460, 460, 460, 460, 460, 460, 460, 273, 296, 319, 342, 368, 414], 100) := by decide +kernel
theorem dX16_text_104 : decode cX16_text 104 = .ok (.new 41, 3) := by decide +kernel
theorem dX16_text_107 : decode cX16_text 107 = .ok (.dup, 1) := by decide +kernel
theorem dX16_text_108 : decode cX16_text 108 = .ok (.invokespecial 43, 3) := by decide +kernel
theorem dX16_text_111 : decode cX16_text 111 = .ok (.ldc 44, 2) := by decide +kernel
theorem dX16_text_113 : decode cX16_text 113 = .ok (.invokevirtual 46, 3) := by decide +kernel
theorem dX16_text_116 : decode cX16_text 116 = .ok (.aload_n 0, 1) := by decide +kernel
theorem dX16_text_117 : decode cX16_text 117 = .ok (.getfield 13, 3) := by decide +kernel
theorem dX16_text_120 : decode cX16_text 120 = .ok (.invokevirtual 50, 3) := by decide +kernel
theorem dX16_text_123 : decode cX16_text 123 = .ok (.invokevirtual 53, 3) := by decide +kernel
theorem dX16_text_126 : decode cX16_text 126 = .ok (.areturn, 1) := by decide +kernel
theorem dX16_text_127 : decode cX16_text 127 = .ok (.getstatic 57, 3) := by decide +kernel
theorem dX16_text_130 : decode cX16_text 130 = .ok (.aload_n 0, 1) := by decide +kernel
theorem dX16_text_131 : decode cX16_text 131 = .ok (.getfield 13, 3) := by decide +kernel
theorem dX16_text_134 : decode cX16_text 134 = .ok (.aaload, 1) := by decide +kernel
theorem dX16_text_135 : decode cX16_text 135 = .ok (.areturn, 1) := by decide +kernel
theorem dX16_text_136 : decode cX16_text 136 = .ok (.new 41, 3) := by decide +kernel
theorem dX16_text_139 : decode cX16_text 139 = .ok (.dup, 1) := by decide +kernel
theorem dX16_text_140 : decode cX16_text 140 = .ok (.invokespecial 43, 3) := by decide +kernel
theorem dX16_text_143 : decode cX16_text 143 = .ok (.ldc 63, 2) := by decide +kernel
theorem dX16_text_145 : decode cX16_text 145 = .ok (.invokevirtual 46, 3) := by decide +kernel
theorem dX16_text_148 : decode cX16_text 148 = .ok (.aload_n 0, 1) := by decide +kernel
theorem dX16_text_149 : decode cX16_text 149 = .ok (.getfield 13, 3) := by decide +kernel
theorem dX16_text_152 : decode cX16_text 152 = .ok (.invokevirtual 50, 3) := by decide +kernel
theorem dX16_text_155 : decode cX16_text 155 = .ok (.invokevirtual 53, 3) := by decide +kernel
theorem dX16_text_158 : decode cX16_text 158 = .ok (.areturn, 1) := by decide +kernel
theorem dX16_text_159 : decode cX16_text 159 = .ok (.new 41, 3) := by decide +kernel
theorem dX16_text_162 : decode cX16_text 162 = .ok (.dup, 1) := by decide +kernel
theorem dX16_text_163 : decode cX16_text 163 = .ok (.invokespecial 43, 3) := by decide +kernel
theorem dX16_text_166 : decode cX16_text 166 = .ok (.ldc 65, 2) := by decide +kernel
theorem dX16_text_168 : decode cX16_text 168 = .ok (.invokevirtual 46, 3) := by decide +kernel
theorem dX16_text_171 : decode cX16_text 171 = .ok (.aload_n 0, 1) := by decide +kernel
theorem dX16_text_172 : decode cX16_text 172 = .ok (.getfield 16, 3) := by decide +kernel
theorem dX16_text_175 : decode cX16_text 175 = .ok (.invokevirtual 67, 3) := by decide +kernel
theorem dX16_text_178 : decode cX16_text 178 = .ok (.invokevirtual 46, 3) := by decide +kernel
theorem dX16_text_181 : decode cX16_text 181 = .ok (.invokevirtual 53, 3) := by decide +kernel
theorem dX16_text_184 : decode cX16_text 184 = .ok (.areturn, 1) := by decide +kernel
theorem dX16_text_185 : decode cX16_text 185 = .ok (.new 41, 3) := by decide +kernel
theorem dX16_text_188 : decode cX16_text 188 = .ok (.dup, 1) := by decide +kernel
theorem dX16_text_189 : decode cX16_text 189 = .ok (.invokespecial 43, 3) := by decide +kernel
theorem dX16_text_192 : decode cX16_text 192 = .ok (.ldc 70, 2) := by decide +kernel
theorem dX16_text_194 : decode cX16_text 194 = .ok (.invokevirtual 46, 3) := by decide +kernel
theorem dX16_text_197 : decode cX16_text 197 = .ok (.aload_n 0, 1) := by decide +kernel
theorem dX16_text_198 : decode cX16_text 198 = .ok (.getfield 16, 3) := by decide +kernel
theorem dX16_text_201 : decode cX16_text 201 = .ok (.invokevirtual 67, 3) := by decide +kernel
theorem dX16_text_204 : decode cX16_text 204 = .ok (.invokevirtual 46, 3) := by decide +kernel
theorem dX16_text_207 : decode cX16_text 207 = .ok (.ldc 72, 2) := by decide +kernel
theorem dX16_text_209 : decode cX16_text 209 = .ok (.invokevirtual 46, 3) := by decide +kernel
theorem dX16_text_212 : decode cX16_text 212 = .ok (.aload_n 0, 1) := by decide +kernel
theorem dX16_text_213 : decode cX16_text 213 = .ok (.getfield 20, 3) := by decide +kernel
theorem dX16_text_216 : decode cX16_text 216 = .ok (.invokevirtual 67, 3) := by decide +kernel
theorem dX16_text_219 : decode cX16_text 219 = .ok (.invokevirtual 46, 3) := by decide +kernel
theorem dX16_text_222 : decode cX16_text 222 = .ok (.ldc 74, 2) := by decide +kernel
theorem dX16_text_224 : decode cX16_text 224 = .ok (.invokevirtual 46, 3) := by decide +kernel
theorem dX16_text_227 : decode cX16_text 227 = .ok (.invokevirtual 53, 3) := by decide +kernel
theorem dX16_text_230 : decode cX16_text 230 = .ok (.areturn, 1) := by decide +kernel
theorem dX16_text_231 : decode cX16_text 231 = .ok (.new 41, 3) := by decide +kernel
theorem dX16_text_234 : decode cX16_text 234 = .ok (.dup, 1) := by decide +kernel
theorem dX16_text_235 : decode cX16_text 235 = .ok (.invokespecial 43, 3) := by decide +kernel
theorem dX16_text_238 : decode cX16_text 238 = .ok (.ldc 76, 2) := by decide +kernel
theorem dX16_text_240 : decode cX16_text 240 = .ok (.invokevirtual 46, 3) := by decide +kernel
theorem dX16_text_243 : decode cX16_text 243 = .ok (.aload_n 0, 1) := by decide +kernel
theorem dX16_text_244 : decode cX16_text 244 = .ok (.getfield 16, 3) := by decide +kernel
theorem dX16_text_247 : decode cX16_text 247 = .ok (.invokevirtual 67, 3) := by decide +kernel
theorem dX16_text_250 : decode cX16_text 250 = .ok (.invokevirtual 46, 3) := by decide +kernel
theorem dX16_text_253 : decode cX16_text 253 = .ok (.ldc 78, 2) := by decide +kernel
theorem dX16_text_255 : decode cX16_text 255 = .ok (.invokevirtual 46, 3) := by decide +kernel
theorem dX16_text_258 : decode cX16_text 258 = .ok (.aload_n 0, 1) := by decide +kernel
theorem dX16_text_259 : decode cX16_text 259 = .ok (.getfield 20, 3) := by decide +kernel
theorem dX16_text_262 : decode cX16_text 262 = .ok (.invokevirtual 67, 3) := by decide +kernel
theorem dX16_text_265 : decode cX16_text 265 = .ok (.invokevirtual 46, 3) := by decide +kernel
theorem dX16_text_268 : decode cX16_text 268 = .ok (.ldc 74, 2) := by decide +kernel
theorem dX16_text_270 : decode cX16_text 270 = .ok (.invokevirtual 46, 3) := by decide +kernel
theorem dX16_text_273 : decode cX16_text 273 = .ok (.invokevirtual 53, 3) := by decide +kernel
theorem dX16_text_276 : decode cX16_text 276 = .ok (.areturn, 1) := by decide +kernel
theorem dX16_text_277 : decode cX16_text 277 = .ok (.new 41, 3) := by decide +kernel
theorem dX16_text_280 : decode cX16_text 280 = .ok (.dup, 1) := by decide +kernel
theorem dX16_text_281 : decode cX16_text 281 = .ok (.invokespecial 43, 3) := by decide +kernel
theorem dX16_text_284 : decode cX16_text 284 = .ok (.ldc 80, 2) := by decide +kernel
theorem dX16_text_286 : decode cX16_text 286 = .ok (.invokevirtual 46, 3) := by decide +kernel
theorem dX16_text_289 : decode cX16_text 289 = .ok (.aload_n 0, 1) := by decide +kernel
theorem dX16_text_290 : decode cX16_text 290 = .ok (.getfield 13, 3) := by decide +kernel
theorem dX16_text_293 : decode cX16_text 293 = .ok (.invokevirtual 50, 3) := by decide +kernel
theorem dX16_text_296 : decode cX16_text 296 = .ok (.invokevirtual 53, 3) := by decide +kernel
theorem dX16_text_299 : decode cX16_text 299 = .ok (.areturn, 1) := by decide +kernel
theorem dX16_text_300 : decode cX16_text 300 = .ok (.new 41, 3) := by decide +kernel
theorem dX16_text_303 : decode cX16_text 303 = .ok (.dup, 1) := by decide +kernel
theorem dX16_text_304 : decode cX16_text 304 = .ok (.invokespecial 43, 3) := by decide +kernel
theorem dX16_text_307 : decode cX16_text 307 = .ok (.ldc 82, 2) := by decide +kernel
theorem dX16_text_309 : decode cX16_text 309 = .ok (.invokevirtual 46, 3) := by decide +kernel
theorem dX16_text_312 : decode cX16_text 312 = .ok (.aload_n 0, 1) := by decide +kernel
theorem dX16_text_313 : decode cX16_text 313 = .ok (.getfield 13, 3) := by decide +kernel
theorem dX16_text_316 : decode cX16_text 316 = .ok (.invokevirtual 50, 3) := by decide +kernel
theorem dX16_text_319 : decode cX16_text 319 = .ok (.invokevirtual 53, 3) := by decide +kernel
theorem dX16_text_322 : decode cX16_text 322 = .ok (.areturn, 1) := by decide +kernel
theorem dX16_text_323 : decode cX16_text 323 = .ok (.new 41, 3) := by decide +kernel
theorem dX16_text_326 : decode cX16_text 326 = .ok (.dup, 1) := by decide +kernel
theorem dX16_text_327 : decode cX16_text 327 = .ok (.invokespecial 43, 3) := by decide +kernel
theorem dX16_text_330 : decode cX16_text 330 = .ok (.ldc 84, 2) := by decide +kernel
theorem dX16_text_332 : decode cX16_text 332 = .ok (.invokevirtual 46, 3) := by decide +kernel
theorem dX16_text_335 : decode cX16_text 335 = .ok (.aload_n 0, 1) := by decide +kernel
theorem dX16_text_336 : decode cX16_text 336 = .ok (.getfield 13, 3) := by decide +kernel
theorem dX16_text_339 : decode cX16_text 339 = .ok (.invokevirtual 50, 3) := by decide +kernel
theorem dX16_text_342 : decode cX16_text 342 = .ok (.invokevirtual 53, 3) := by decide +kernel
theorem dX16_text_345 : decode cX16_text 345 = .ok (.areturn, 1) := by decide +kernel
theorem dX16_text_346 : decode cX16_text 346 = .ok (.new 41, 3) := by decide +kernel
theorem dX16_text_349 : decode cX16_text 349 = .ok (.dup, 1) := by decide +kernel
theorem dX16_text_350 : decode cX16_text 350 = .ok (.invokespecial 43, 3) := by decide +kernel
theorem dX16_text_353 : decode cX16_text 353 = .ok (.ldc 86, 2) := by decide +kernel
theorem dX16_text_355 : decode cX16_text 355 = .ok (.invokevirtual 46, 3) := by decide +kernel
theorem dX16_text_358 : decode cX16_text 358 = .ok (.aload_n 0, 1) := by decide +kernel
theorem dX16_text_359 : decode cX16_text 359 = .ok (.getfield 16, 3) := by decide +kernel
theorem dX16_text_362 : decode cX16_text 362 = .ok (.invokevirtual 67, 3) := by decide +kernel
theorem dX16_text_365 : decode cX16_text 365 = .ok (.invokevirtual 46, 3) := by decide +kernel
theorem dX16_text_368 : decode cX16_text 368 = .ok (.invokevirtual 53, 3) := by decide +kernel
theorem dX16_text_371 : decode cX16_text 371 = .ok (.areturn, 1) := by decide +kernel
theorem dX16_text_372 : decode cX16_text 372 = .ok (.new 41, 3) := by decide +kernel
theorem dX16_text_375 : decode cX16_text 375 = .ok (.dup, 1) := by decide +kernel
theorem dX16_text_376 : decode cX16_text 376 = .ok (.invokespecial 43, 3) := by decide +kernel
theorem dX16_text_379 : decode cX16_text 379 = .ok (.ldc 88, 2) := by decide +kernel
theorem dX16_text_381 : decode cX16_text 381 = .ok (.invokevirtual 46, 3) := by decide +kernel
theorem dX16_text_384 : decode cX16_text 384 = .ok (.aload_n 0, 1) := by decide +kernel
theorem dX16_text_385 : decode cX16_text 385 = .ok (.getfield 16, 3) := by decide +kernel
theorem dX16_text_388 : decode cX16_text 388 = .ok (.invokevirtual 67, 3) := by decide +kernel
theorem dX16_text_391 : decode cX16_text 391 = .ok (.invokevirtual 46, 3) := by decide +kernel
theorem dX16_text_394 : decode cX16_text 394 = .ok (.ldc 90, 2) := by decide +kernel
theorem dX16_text_396 : decode cX16_text 396 = .ok (.invokevirtual 46, 3) := by decide +kernel
theorem dX16_text_399 : decode cX16_text 399 = .ok (.aload_n 0, 1) := by decide +kernel
theorem dX16_text_400 : decode cX16_text 400 = .ok (.getfield 20, 3) := by decide +kernel
theorem dX16_text_403 : decode cX16_text 403 = .ok (.invokevirtual 67, 3) := by decide +kernel
theorem dX16_text_406 : decode cX16_text 406 = .ok (.invokevirtual 46, 3) := by decide +kernel
theorem dX16_text_409 : decode cX16_text 409 = .ok (.ldc 92, 2) := by decide +kernel
theorem dX16_text_411 : decode cX16_text 411 = .ok (.invokevirtual 46, 3) := by decide +kernel
theorem dX16_text_414 : decode cX16_text 414 = .ok (.invokevirtual 53, 3) := by decide +kernel
theorem dX16_text_417 : decode cX16_text 417 = .ok (.areturn, 1) := by decide +kernel
theorem dX16_text_418 : decode cX16_text 418 = .ok (.new 41, 3) := by decide +kernel
theorem dX16_text_421 : decode cX16_text 421 = .ok (.dup, 1) := by decide +kernel
theorem dX16_text_422 : decode cX16_text 422 = .ok (.invokespecial 43, 3) := by decide +kernel
theorem dX16_text_425 : decode cX16_text 425 = .ok (.ldc 88, 2) := by decide +kernel
theorem dX16_text_427 : decode cX16_text 427 = .ok (.invokevirtual 46, 3) := by decide +kernel
theorem dX16_text_430 : decode cX16_text 430 = .ok (.aload_n 0, 1) := by decide +kernel
theorem dX16_text_431 : decode cX16_text 431 = .ok (.getfield 16, 3) := by decide +kernel
theorem dX16_text_434 : decode cX16_text 434 = .ok (.invokevirtual 67, 3) := by decide +kernel
theorem dX16_text_437 : decode cX16_text 437 = .ok (.invokevirtual 46, 3) := by decide +kernel
theorem dX16_text_440 : decode cX16_text 440 = .ok (.ldc 94, 2) := by decide +kernel
theorem dX16_text_442 : decode cX16_text 442 = .ok (.invokevirtual 46, 3) := by decide +kernel
theorem dX16_text_445 : decode cX16_text 445 = .ok (.aload_n 0, 1) := by decide +kernel
theorem dX16_text_446 : decode cX16_text 446 = .ok (.getfield 20, 3) := by decide +kernel
theorem dX16_text_449 : decode cX16_text 449 = .ok (.invokevirtual 67, 3) := by decide +kernel
theorem dX16_text_452 : decode cX16_text 452 = .ok (.invokevirtual 46, 3) := by decide +kernel
theorem dX16_text_455 : decode cX16_text 455 = .ok (.ldc 92, 2) := by decide +kernel
theorem dX16_text_457 : decode cX16_text 457 = .ok (.invokevirtual 46, 3) := by decide +kernel
theorem dX16_text_460 : decode cX16_text 460 = .ok (.invokevirtual 53, 3) := by decide +kernel
theorem dX16_text_463 : decode cX16_text 463 = .ok (.areturn, 1) := by decide +kernel
theorem dX16_text_464 : decode cX16_text 464 = .ok (.aload_n 0, 1) := by decide +kernel
theorem dX16_text_465 : decode cX16_text 465 = .ok (.getfield 7, 3) := by decide +kernel
theorem dX16_text_468 : decode cX16_text 468 = .ok (.bipush 10, 2) := by decide +kernel
theorem dX16_text_470 : decode cX16_text 470 = .ok (.if_icmp .ge 60, 3) := by decide +kernel
theorem dX16_text_473 : decode cX16_text 473 = .ok (.new 41, 3) := by decide +kernel
theorem dX16_text_476 : decode cX16_text 476 = .ok (.dup, 1) := by decide +kernel
theorem dX16_text_477 : decode cX16_text 477 = .ok (.invokespecial 43, 3) := by decide +kernel
theorem dX16_text_480 : decode cX16_text 480 = .ok (.ldc 96, 2) := by decide +kernel
theorem dX16_text_482 : decode cX16_text 482 = .ok (.invokevirtual 46, 3) := by decide +kernel
theorem dX16_text_485 : decode cX16_text 485 = .ok (.aload_n 0, 1) := by decide +kernel
theorem dX16_text_486 : decode cX16_text 486 = .ok (.getfield 16, 3) := by decide +kernel
theorem dX16_text_489 : decode cX16_text 489 = .ok (.invokevirtual 67, 3) := by decide +kernel
theorem dX16_text_492 : decode cX16_text 492 = .ok (.invokevirtual 46, 3) := by decide +kernel
theorem dX16_text_495 : decode cX16_text 495 = .ok (.getstatic 98, 3) := by decide +kernel
theorem dX16_text_498 : decode cX16_text 498 = .ok (.aload_n 0, 1) := by decide +kernel
theorem dX16_text_499 : decode cX16_text 499 = .ok (.getfield 7, 3) := by decide +kernel
theorem dX16_text_502 : decode cX16_text 502 = .ok (.bipush 6, 2) := by decide +kernel
theorem dX16_text_504 : decode cX16_text 504 = .ok (.isub, 1) := by decide +kernel
theorem dX16_text_505 : decode cX16_text 505 = .ok (.aaload, 1) := by decide +kernel
theorem dX16_text_506 : decode cX16_text 506 = .ok (.invokevirtual 46, 3) := by decide +kernel
theorem dX16_text_509 : decode cX16_text 509 = .ok (.aload_n 0, 1) := by decide +kernel
theorem dX16_text_510 : decode cX16_text 510 = .ok (.getfield 20, 3) := by decide +kernel
theorem dX16_text_513 : decode cX16_text 513 = .ok (.invokevirtual 67, 3) := by decide +kernel
theorem dX16_text_516 : decode cX16_text 516 = .ok (.invokevirtual 46, 3) := by decide +kernel
theorem dX16_text_519 : decode cX16_text 519 = .ok (.ldc 74, 2) := by decide +kernel
theorem dX16_text_521 : decode cX16_text 521 = .ok (.invokevirtual 46, 3) := by decide +kernel
theorem dX16_text_524 : decode cX16_text 524 = .ok (.invokevirtual 53, 3) := by decide +kernel
theorem dX16_text_527 : decode cX16_text 527 = .ok (.goto 47, 3) := by decide +kernel
theorem dX16_text_530 : decode cX16_text 530 = .ok (.new 41, 3) := by decide +kernel
theorem dX16_text_533 : decode cX16_text 533 = .ok (.dup, 1) := by decide +kernel
theorem dX16_text_534 : decode cX16_text 534 = .ok (.invokespecial 43, 3) := by decide +kernel
theorem dX16_text_537 : decode cX16_text 537 = .ok (.aload_n 0, 1) := by decide +kernel
theorem dX16_text_538 : decode cX16_text 538 = .ok (.getfield 16, 3) := by decide +kernel
theorem dX16_text_541 : decode cX16_text 541 = .ok (.invokevirtual 67, 3) := by decide +kernel
theorem dX16_text_544 : decode cX16_text 544 = .ok (.invokevirtual 46, 3) := by decide +kernel
theorem dX16_text_547 : decode cX16_text 547 = .ok (.getstatic 98, 3) := by decide +kernel
theorem dX16_text_550 : decode cX16_text 550 = .ok (.aload_n 0, 1) := by decide +kernel
theorem dX16_text_551 : decode cX16_text 551 = .ok (.getfield 7, 3) := by decide +kernel
theorem dX16_text_554 : decode cX16_text 554 = .ok (.bipush 6, 2) := by decide +kernel
theorem dX16_text_556 : decode cX16_text 556 = .ok (.isub, 1) := by decide +kernel
theorem dX16_text_557 : decode cX16_text 557 = .ok (.aaload, 1) := by decide +kernel
theorem dX16_text_558 : decode cX16_text 558 = .ok (.invokevirtual 46, 3) := by decide +kernel
theorem dX16_text_561 : decode cX16_text 561 = .ok (.aload_n 0, 1) := by decide +kernel
theorem dX16_text_562 : decode cX16_text 562 = .ok (.getfield 20, 3) := by decide +kernel
theorem dX16_text_565 : decode cX16_text 565 = .ok (.invokevirtual 67, 3) := by decide +kernel
theorem dX16_text_568 : decode cX16_text 568 = .ok (.invokevirtual 46, 3) := by decide +kernel
theorem dX16_text_571 : decode cX16_text 571 = .ok (.invokevirtual 53, 3) := by decide +kernel
theorem dX16_text_574 : decode cX16_text 574 = .ok (.areturn, 1) := by decide +kernel
theorem dX16_value_0 : decode cX16_value 0 = .ok (.aload_n 0, 1) := by decide +kernel
theorem dX16_value_1 : decode cX16_value 1 = .ok (.getfield 7, 3) := by decide +kernel
theorem dX16_value_4 : decode cX16_value 4 = .ok (.tableswitch 296 0 18 #[92, 97, 191, 204, 296, 296, 296, 296, 296, 296, 296, 296, 296, 296, 296, 215, 237, 259, 285], 92) := by decide +kernel
theorem dX16_value_96 : decode cX16_value 96 = .ok (.aload_n 0, 1) := by decide +kernel
theorem dX16_value_97 : decode cX16_value 97 = .ok (.getfield 13, 3) := by decide +kernel
theorem dX16_value_100 : decode cX16_value 100 = .ok (.ireturn, 1) := by decide +kernel
theorem dX16_value_101 : decode cX16_value 101 = .ok (.aload_n 0, 1) := by decide +kernel
theorem dX16_value_102 : decode cX16_value 102 = .ok (.getfield 13, 3) := by decide +kernel
theorem dX16_value_105 : decode cX16_value 105 = .ok (.ifCond .ne 10, 3) := by decide +kernel
theorem dX16_value_108 : decode cX16_value 108 = .ok (.aload_n 1, 1) := by decide +kernel
theorem dX16_value_109 : decode cX16_value 109 = .ok (.getfield 101, 3) := by decide +kernel
theorem dX16_value_112 : decode cX16_value 112 = .ok (.goto 82, 3) := by decide +kernel
theorem dX16_value_115 : decode cX16_value 115 = .ok (.aload_n 0, 1) := by decide +kernel
theorem dX16_value_116 : decode cX16_value 116 = .ok (.getfield 13, 3) := by decide +kernel
theorem dX16_value_119 : decode cX16_value 119 = .ok (.iconst 1, 1) := by decide +kernel
theorem dX16_value_120 : decode cX16_value 120 = .ok (.if_icmp .ne 10, 3) := by decide +kernel
theorem dX16_value_123 : decode cX16_value 123 = .ok (.aload_n 1, 1) := by decide +kernel
theorem dX16_value_124 : decode cX16_value 124 = .ok (.getfield 106, 3) := by decide +kernel
theorem dX16_value_127 : decode cX16_value 127 = .ok (.goto 67, 3) := by decide +kernel
theorem dX16_value_130 : decode cX16_value 130 = .ok (.aload_n 0, 1) := by decide +kernel
theorem dX16_value_131 : decode cX16_value 131 = .ok (.getfield 13, 3) := by decide +kernel
theorem dX16_value_134 : decode cX16_value 134 = .ok (.iconst 2, 1) := by decide +kernel
theorem dX16_value_135 : decode cX16_value 135 = .ok (.if_icmp .ne 10, 3) := by decide +kernel
theorem dX16_value_138 : decode cX16_value 138 = .ok (.aload_n 1, 1) := by decide +kernel
theorem dX16_value_139 : decode cX16_value 139 = .ok (.getfield 109, 3) := by decide +kernel
theorem dX16_value_142 : decode cX16_value 142 = .ok (.goto 52, 3) := by decide +kernel
theorem dX16_value_145 : decode cX16_value 145 = .ok (.aload_n 0, 1) := by decide +kernel
theorem dX16_value_146 : decode cX16_value 146 = .ok (.getfield 13, 3) := by decide +kernel
theorem dX16_value_149 : decode cX16_value 149 = .ok (.iconst 3, 1) := by decide +kernel
theorem dX16_value_150 : decode cX16_value 150 = .ok (.if_icmp .ne 10, 3) := by decide +kernel
theorem dX16_value_153 : decode cX16_value 153 = .ok (.aload_n 1, 1) := by decide +kernel
theorem dX16_value_154 : decode cX16_value 154 = .ok (.getfield 112, 3) := by decide +kernel
theorem dX16_value_157 : decode cX16_value 157 = .ok (.goto 37, 3) := by decide +kernel
theorem dX16_value_160 : decode cX16_value 160 = .ok (.aload_n 0, 1) := by decide +kernel
theorem dX16_value_161 : decode cX16_value 161 = .ok (.getfield 13, 3) := by decide +kernel
theorem dX16_value_164 : decode cX16_value 164 = .ok (.iconst 4, 1) := by decide +kernel
theorem dX16_value_165 : decode cX16_value 165 = .ok (.if_icmp .ne 10, 3) := by decide +kernel
theorem dX16_value_168 : decode cX16_value 168 = .ok (.aload_n 1, 1) := by decide +kernel
theorem dX16_value_169 : decode cX16_value 169 = .ok (.getfield 115, 3) := by decide +kernel
theorem dX16_value_172 : decode cX16_value 172 = .ok (.goto 22, 3) := by decide +kernel
theorem dX16_value_175 : decode cX16_value 175 = .ok (.aload_n 0, 1) := by decide +kernel
theorem dX16_value_176 : decode cX16_value 176 = .ok (.getfield 13, 3) := by decide +kernel
theorem dX16_value_179 : decode cX16_value 179 = .ok (.iconst 5, 1) := by decide +kernel
theorem dX16_value_180 : decode cX16_value 180 = .ok (.if_icmp .ne 10, 3) := by decide +kernel
theorem dX16_value_183 : decode cX16_value 183 = .ok (.aload_n 1, 1) := by decide +kernel
theorem dX16_value_184 : decode cX16_value 184 = .ok (.getfield 118, 3) := by decide +kernel
theorem dX16_value_187 : decode cX16_value 187 = .ok (.goto 7, 3) := by decide +kernel
theorem dX16_value_190 : decode cX16_value 190 = .ok (.aload_n 1, 1) := by decide +kernel
theorem dX16_value_191 : decode cX16_value 191 = .ok (.getfield 121, 3) := by decide +kernel
theorem dX16_value_194 : decode cX16_value 194 = .ok (.ireturn, 1) := by decide +kernel
theorem dX16_value_195 : decode cX16_value 195 = .ok (.aload_n 1, 1) := by decide +kernel
theorem dX16_value_196 : decode cX16_value 196 = .ok (.getfield 124, 3) := by decide +kernel
theorem dX16_value_199 : decode cX16_value 199 = .ok (.aload_n 0, 1) := by decide +kernel
theorem dX16_value_200 : decode cX16_value 200 = .ok (.getfield 13, 3) := by decide +kernel
theorem dX16_value_203 : decode cX16_value 203 = .ok (.aaload, 1) := by decide +kernel
theorem dX16_value_204 : decode cX16_value 204 = .ok (.getfield 128, 3) := by decide +kernel
theorem dX16_value_207 : decode cX16_value 207 = .ok (.ireturn, 1) := by decide +kernel
theorem dX16_value_208 : decode cX16_value 208 = .ok (.iconst 0, 1) := by decide +kernel
theorem dX16_value_209 : decode cX16_value 209 = .ok (.aload_n 0, 1) := by decide +kernel
theorem dX16_value_210 : decode cX16_value 210 = .ok (.getfield 16, 3) := by decide +kernel
theorem dX16_value_213 : decode cX16_value 213 = .ok (.aload_n 1, 1) := by decide +kernel
theorem dX16_value_214 : decode cX16_value 214 = .ok (.invokevirtual 133, 3) := by decide +kernel
theorem dX16_value_217 : decode cX16_value 217 = .ok (.isub, 1) := by decide +kernel
theorem dX16_value_218 : decode cX16_value 218 = .ok (.ireturn, 1) := by decide +kernel
theorem dX16_value_219 : decode cX16_value 219 = .ok (.aload_n 1, 1) := by decide +kernel
theorem dX16_value_220 : decode cX16_value 220 = .ok (.getfield 124, 3) := by decide +kernel
theorem dX16_value_223 : decode cX16_value 223 = .ok (.aload_n 0, 1) := by decide +kernel
theorem dX16_value_224 : decode cX16_value 224 = .ok (.getfield 13, 3) := by decide +kernel
theorem dX16_value_227 : decode cX16_value 227 = .ok (.aaload, 1) := by decide +kernel
theorem dX16_value_228 : decode cX16_value 228 = .ok (.getfield 137, 3) := by decide +kernel
theorem dX16_value_231 : decode cX16_value 231 = .ok (.iconst 1, 1) := by decide +kernel
theorem dX16_value_232 : decode cX16_value 232 = .ok (.if_icmp .ne 7, 3) := by decide +kernel
theorem dX16_value_235 : decode cX16_value 235 = .ok (.iconst 1, 1) := by decide +kernel
theorem dX16_value_236 : decode cX16_value 236 = .ok (.goto 4, 3) := by decide +kernel
theorem dX16_value_239 : decode cX16_value 239 = .ok (.iconst 0, 1) := by decide +kernel
theorem dX16_value_240 : decode cX16_value 240 = .ok (.ireturn, 1) := by decide +kernel
theorem dX16_value_241 : decode cX16_value 241 = .ok (.aload_n 1, 1) := by decide +kernel
theorem dX16_value_242 : decode cX16_value 242 = .ok (.getfield 140, 3) := by decide +kernel
theorem dX16_value_245 : decode cX16_value 245 = .ok (.aload_n 0, 1) := by decide +kernel
theorem dX16_value_246 : decode cX16_value 246 = .ok (.getfield 13, 3) := by decide +kernel
theorem dX16_value_249 : decode cX16_value 249 = .ok (.aaload, 1) := by decide +kernel
theorem dX16_value_250 : decode cX16_value 250 = .ok (.getfield 144, 3) := by decide +kernel
theorem dX16_value_253 : decode cX16_value 253 = .ok (.iconst 1, 1) := by decide +kernel
theorem dX16_value_254 : decode cX16_value 254 = .ok (.if_icmp .ne 7, 3) := by decide +kernel
theorem dX16_value_257 : decode cX16_value 257 = .ok (.iconst 1, 1) := by decide +kernel
theorem dX16_value_258 : decode cX16_value 258 = .ok (.goto 4, 3) := by decide +kernel
theorem dX16_value_261 : decode cX16_value 261 = .ok (.iconst 0, 1) := by decide +kernel
theorem dX16_value_262 : decode cX16_value 262 = .ok (.ireturn, 1) := by decide +kernel
theorem dX16_value_263 : decode cX16_value 263 = .ok (.aload_n 1, 1) := by decide +kernel
theorem dX16_value_264 : decode cX16_value 264 = .ok (.aload_n 1, 1) := by decide +kernel
theorem dX16_value_265 : decode cX16_value 265 = .ok (.getfield 140, 3) := by decide +kernel
theorem dX16_value_268 : decode cX16_value 268 = .ok (.aload_n 0, 1) := by decide +kernel
theorem dX16_value_269 : decode cX16_value 269 = .ok (.getfield 13, 3) := by decide +kernel
theorem dX16_value_272 : decode cX16_value 272 = .ok (.aaload, 1) := by decide +kernel
theorem dX16_value_273 : decode cX16_value 273 = .ok (.aload_n 1, 1) := by decide +kernel
theorem dX16_value_274 : decode cX16_value 274 = .ok (.getfield 109, 3) := by decide +kernel
theorem dX16_value_277 : decode cX16_value 277 = .ok (.invokevirtual 147, 3) := by decide +kernel
theorem dX16_value_280 : decode cX16_value 280 = .ok (.ifCond .eq 7, 3) := by decide +kernel
theorem dX16_value_283 : decode cX16_value 283 = .ok (.iconst 1, 1) := by decide +kernel
theorem dX16_value_284 : decode cX16_value 284 = .ok (.goto 4, 3) := by decide +kernel
theorem dX16_value_287 : decode cX16_value 287 = .ok (.iconst 0, 1) := by decide +kernel
theorem dX16_value_288 : decode cX16_value 288 = .ok (.ireturn, 1) := by decide +kernel
theorem dX16_value_289 : decode cX16_value 289 = .ok (.iconst 1, 1) := by decide +kernel
theorem dX16_value_290 : decode cX16_value 290 = .ok (.aload_n 0, 1) := by decide +kernel
theorem dX16_value_291 : decode cX16_value 291 = .ok (.getfield 16, 3) := by decide +kernel
theorem dX16_value_294 : decode cX16_value 294 = .ok (.aload_n 1, 1) := by decide +kernel
theorem dX16_value_295 : decode cX16_value 295 = .ok (.invokevirtual 133, 3) := by decide +kernel
theorem dX16_value_298 : decode cX16_value 298 = .ok (.isub, 1) := by decide +kernel
theorem dX16_value_299 : decode cX16_value 299 = .ok (.ireturn, 1) := by decide +kernel
theorem dX16_value_300 : decode cX16_value 300 = .ok (.aload_n 0, 1) := by decide +kernel
theorem dX16_value_301 : decode cX16_value 301 = .ok (.getfield 7, 3) := by decide +kernel
theorem dX16_value_304 : decode cX16_value 304 = .ok (.aload_n 0, 1) := by decide +kernel
theorem dX16_value_305 : decode cX16_value 305 = .ok (.getfield 16, 3) := by decide +kernel
theorem dX16_value_308 : decode cX16_value 308 = .ok (.aload_n 1, 1) := by decide +kernel
theorem dX16_value_309 : decode cX16_value 309 = .ok (.invokevirtual 133, 3) := by decide +kernel
theorem dX16_value_312 : decode cX16_value 312 = .ok (.aload_n 0, 1) := by decide +kernel
theorem dX16_value_313 : decode cX16_value 313 = .ok (.getfield 20, 3) := by decide +kernel
theorem dX16_value_316 : decode cX16_value 316 = .ok (.aload_n 1, 1) := by decide +kernel
theorem dX16_value_317 : decode cX16_value 317 = .ok (.invokevirtual 133, 3) := by decide +kernel
theorem dX16_value_320 : decode cX16_value 320 = .ok (.invokestatic 151, 3) := by decide +kernel
theorem dX16_value_323 : decode cX16_value 323 = .ok (.ireturn, 1) := by decide +kernel
theorem dX16_both_0 : decode cX16_both 0 = .ok (.iload_n 0, 1) := by decide +kernel
theorem dX16_both_1 : decode cX16_both 1 = .ok (.tableswitch 145 4 20 #[83, 94, 105, 109, 113, 117, 145, 145, 145, 145, 145, 145, 145, 145, 145, 129, 133], 83) := by decide +kernel
theorem dX16_both_84 : decode cX16_both 84 = .ok (.iload_n 1, 1) := by decide +kernel
theorem dX16_both_85 : decode cX16_both 85 = .ok (.iload_n 2, 1) := by decide +kernel
theorem dX16_both_86 : decode cX16_both 86 = .ok (.if_icmp .ge 7, 3) := by decide +kernel
theorem dX16_both_89 : decode cX16_both 89 = .ok (.iload_n 1, 1) := by decide +kernel
theorem dX16_both_90 : decode cX16_both 90 = .ok (.goto 4, 3) := by decide +kernel
theorem dX16_both_93 : decode cX16_both 93 = .ok (.iload_n 2, 1) := by decide +kernel
theorem dX16_both_94 : decode cX16_both 94 = .ok (.ireturn, 1) := by decide +kernel
theorem dX16_both_95 : decode cX16_both 95 = .ok (.iload_n 1, 1) := by decide +kernel
theorem dX16_both_96 : decode cX16_both 96 = .ok (.iload_n 2, 1) := by decide +kernel
theorem dX16_both_97 : decode cX16_both 97 = .ok (.if_icmp .ge 7, 3) := by decide +kernel
theorem dX16_both_100 : decode cX16_both 100 = .ok (.iload_n 2, 1) := by decide +kernel
theorem dX16_both_101 : decode cX16_both 101 = .ok (.goto 4, 3) := by decide +kernel
theorem dX16_both_104 : decode cX16_both 104 = .ok (.iload_n 1, 1) := by decide +kernel
theorem dX16_both_105 : decode cX16_both 105 = .ok (.ireturn, 1) := by decide +kernel
theorem dX16_both_106 : decode cX16_both 106 = .ok (.iload_n 1, 1) := by decide +kernel
theorem dX16_both_107 : decode cX16_both 107 = .ok (.iload_n 2, 1) := by decide +kernel
theorem dX16_both_108 : decode cX16_both 108 = .ok (.iadd, 1) := by decide +kernel
theorem dX16_both_109 : decode cX16_both 109 = .ok (.ireturn, 1) := by decide +kernel
theorem dX16_both_110 : decode cX16_both 110 = .ok (.iload_n 1, 1) := by decide +kernel
theorem dX16_both_111 : decode cX16_both 111 = .ok (.iload_n 2, 1) := by decide +kernel
theorem dX16_both_112 : decode cX16_both 112 = .ok (.isub, 1) := by decide +kernel
theorem dX16_both_113 : decode cX16_both 113 = .ok (.ireturn, 1) := by decide +kernel
theorem dX16_both_114 : decode cX16_both 114 = .ok (.iload_n 1, 1) := by decide +kernel
theorem dX16_both_115 : decode cX16_both 115 = .ok (.iload_n 2, 1) := by decide +kernel
theorem dX16_both_116 : decode cX16_both 116 = .ok (.imul, 1) := by decide +kernel
theorem dX16_both_117 : decode cX16_both 117 = .ok (.ireturn, 1) := by decide +kernel
theorem dX16_both_118 : decode cX16_both 118 = .ok (.iload_n 2, 1) := by decide +kernel
theorem dX16_both_119 : decode cX16_both 119 = .ok (.ifCond .ne 7, 3) := by decide +kernel
theorem dX16_both_122 : decode cX16_both 122 = .ok (.iconst 0, 1) := by decide +kernel
theorem dX16_both_123 : decode cX16_both 123 = .ok (.goto 6, 3) := by decide +kernel
theorem dX16_both_126 : decode cX16_both 126 = .ok (.iload_n 1, 1) := by decide +kernel
theorem dX16_both_127 : decode cX16_both 127 = .ok (.iload_n 2, 1) := by decide +kernel
theorem dX16_both_128 : decode cX16_both 128 = .ok (.idiv, 1) := by decide +kernel
theorem dX16_both_129 : decode cX16_both 129 = .ok (.ireturn, 1) := by decide +kernel
theorem dX16_both_130 : decode cX16_both 130 = .ok (.iload_n 1, 1) := by decide +kernel
theorem dX16_both_131 : decode cX16_both 131 = .ok (.iload_n 2, 1) := by decide +kernel
theorem dX16_both_132 : decode cX16_both 132 = .ok (.imul, 1) := by decide +kernel
theorem dX16_both_133 : decode cX16_both 133 = .ok (.ireturn, 1) := by decide +kernel
theorem dX16_both_134 : decode cX16_both 134 = .ok (.iload_n 1, 1) := by decide +kernel
theorem dX16_both_135 : decode cX16_both 135 = .ok (.iload_n 2, 1) := by decide +kernel
theorem dX16_both_136 : decode cX16_both 136 = .ok (.iadd, 1) := by decide +kernel
theorem dX16_both_137 : decode cX16_both 137 = .ok (.ifCond .le 7, 3) := by decide +kernel
theorem dX16_both_140 : decode cX16_both 140 = .ok (.iconst 1, 1) := by decide +kernel
theorem dX16_both_141 : decode cX16_both 141 = .ok (.goto 4, 3) := by decide +kernel
theorem dX16_both_144 : decode cX16_both 144 = .ok (.iconst 0, 1) := by decide +kernel
theorem dX16_both_145 : decode cX16_both 145 = .ok (.ireturn, 1) := by decide +kernel
theorem dX16_both_146 : decode cX16_both 146 = .ok (.iload_n 0, 1) := by decide +kernel
theorem dX16_both_147 : decode cX16_both 147 = .ok (.bipush 10, 2) := by decide +kernel
theorem dX16_both_149 : decode cX16_both 149 = .ok (.if_icmp .ne 11, 3) := by decide +kernel
theorem dX16_both_152 : decode cX16_both 152 = .ok (.iload_n 1, 1) := by decide +kernel
theorem dX16_both_153 : decode cX16_both 153 = .ok (.iload_n 2, 1) := by decide +kernel
theorem dX16_both_154 : decode cX16_both 154 = .ok (.if_icmp .ge 57, 3) := by decide +kernel
theorem dX16_both_157 : decode cX16_both 157 = .ok (.goto 50, 3) := by decide +kernel
theorem dX16_both_160 : decode cX16_both 160 = .ok (.iload_n 0, 1) := by decide +kernel
theorem dX16_both_161 : decode cX16_both 161 = .ok (.bipush 11, 2) := by decide +kernel
theorem dX16_both_163 : decode cX16_both 163 = .ok (.if_icmp .ne 11, 3) := by decide +kernel
theorem dX16_both_166 : decode cX16_both 166 = .ok (.iload_n 1, 1) := by decide +kernel
theorem dX16_both_167 : decode cX16_both 167 = .ok (.iload_n 2, 1) := by decide +kernel
theorem dX16_both_168 : decode cX16_both 168 = .ok (.if_icmp .le 43, 3) := by decide +kernel
theorem dX16_both_171 : decode cX16_both 171 = .ok (.goto 36, 3) := by decide +kernel
theorem dX16_both_174 : decode cX16_both 174 = .ok (.iload_n 0, 1) := by decide +kernel
theorem dX16_both_175 : decode cX16_both 175 = .ok (.bipush 12, 2) := by decide +kernel
theorem dX16_both_177 : decode cX16_both 177 = .ok (.if_icmp .ne 11, 3) := by decide +kernel
theorem dX16_both_180 : decode cX16_both 180 = .ok (.iload_n 1, 1) := by decide +kernel
theorem dX16_both_181 : decode cX16_both 181 = .ok (.iload_n 2, 1) := by decide +kernel
theorem dX16_both_182 : decode cX16_both 182 = .ok (.if_icmp .ne 29, 3) := by decide +kernel
theorem dX16_both_185 : decode cX16_both 185 = .ok (.goto 22, 3) := by decide +kernel
theorem dX16_both_188 : decode cX16_both 188 = .ok (.iload_n 0, 1) := by decide +kernel
theorem dX16_both_189 : decode cX16_both 189 = .ok (.bipush 13, 2) := by decide +kernel
theorem dX16_both_191 : decode cX16_both 191 = .ok (.if_icmp .ne 11, 3) := by decide +kernel
theorem dX16_both_194 : decode cX16_both 194 = .ok (.iload_n 1, 1) := by decide +kernel
theorem dX16_both_195 : decode cX16_both 195 = .ok (.iload_n 2, 1) := by decide +kernel
theorem dX16_both_196 : decode cX16_both 196 = .ok (.if_icmp .gt 15, 3) := by decide +kernel
theorem dX16_both_199 : decode cX16_both 199 = .ok (.goto 8, 3) := by decide +kernel
theorem dX16_both_202 : decode cX16_both 202 = .ok (.iload_n 1, 1) := by decide +kernel
theorem dX16_both_203 : decode cX16_both 203 = .ok (.iload_n 2, 1) := by decide +kernel
theorem dX16_both_204 : decode cX16_both 204 = .ok (.if_icmp .lt 7, 3) := by decide +kernel
theorem dX16_both_207 : decode cX16_both 207 = .ok (.iconst 1, 1) := by decide +kernel
theorem dX16_both_208 : decode cX16_both 208 = .ok (.goto 4, 3) := by decide +kernel
theorem dX16_both_211 : decode cX16_both 211 = .ok (.iconst 0, 1) := by decide +kernel
theorem dX16_both_212 : decode cX16_both 212 = .ok (.ireturn, 1) := by decide +kernel
theorem dX17_init_0 : decode cX17_init 0 = .ok (.aload_n 0, 1) := by decide +kernel
theorem dX17_init_1 : decode cX17_init 1 = .ok (.invokespecial 1, 3) := by decide +kernel
theorem dX17_init_4 : decode cX17_init 4 = .ok (.aload_n 1, 1) := by decide +kernel
theorem dX17_init_5 : decode cX17_init 5 = .ok (.bipush 8, 2) := by decide +kernel
theorem dX17_init_7 : decode cX17_init 7 = .ok (.invokevirtual 7, 3) := by decide +kernel
theorem dX17_init_10 : decode cX17_init 10 = .ok (.istore 4, 2) := by decide +kernel
theorem dX17_init_12 : decode cX17_init 12 = .ok (.aload_n 0, 1) := by decide +kernel
theorem dX17_init_13 : decode cX17_init 13 = .ok (.iload 4, 2) := by decide +kernel
theorem dX17_init_15 : decode cX17_init 15 = .ok (.iconst 3, 1) := by decide +kernel
theorem dX17_init_16 : decode cX17_init 16 = .ok (.if_icmp .ge 11, 3) := by decide +kernel
theorem dX17_init_19 : decode cX17_init 19 = .ok (.iload_n 2, 1) := by decide +kernel
theorem dX17_init_20 : decode cX17_init 20 = .ok (.ifCond .le 7, 3) := by decide +kernel
theorem dX17_init_23 : decode cX17_init 23 = .ok (.iconst 0, 1) := by decide +kernel
theorem dX17_init_24 : decode cX17_init 24 = .ok (.goto 29, 3) := by decide +kernel
theorem dX17_init_27 : decode cX17_init 27 = .ok (.iload 4, 2) := by decide +kernel
theorem dX17_init_29 : decode cX17_init 29 = .ok (.iconst 4, 1) := by decide +kernel
theorem dX17_init_30 : decode cX17_init 30 = .ok (.if_icmp .le 11, 3) := by decide +kernel
theorem dX17_init_33 : decode cX17_init 33 = .ok (.iload_n 3, 1) := by decide +kernel
theorem dX17_init_34 : decode cX17_init 34 = .ok (.ifCond .le 7, 3) := by decide +kernel
theorem dX17_init_37 : decode cX17_init 37 = .ok (.iconst 1, 1) := by decide +kernel
theorem dX17_init_38 : decode cX17_init 38 = .ok (.goto 15, 3) := by decide +kernel
theorem dX17_init_41 : decode cX17_init 41 = .ok (.iload 4, 2) := by decide +kernel
theorem dX17_init_43 : decode cX17_init 43 = .ok (.iconst 2, 1) := by decide +kernel
theorem dX17_init_44 : decode cX17_init 44 = .ok (.irem, 1) := by decide +kernel
theorem dX17_init_45 : decode cX17_init 45 = .ok (.ifCond .ne 7, 3) := by decide +kernel
theorem dX17_init_48 : decode cX17_init 48 = .ok (.iconst 2, 1) := by decide +kernel
theorem dX17_init_49 : decode cX17_init 49 = .ok (.goto 4, 3) := by decide +kernel
theorem dX17_init_52 : decode cX17_init 52 = .ok (.iconst 3, 1) := by decide +kernel
theorem dX17_init_53 : decode cX17_init 53 = .ok (.putfield 13, 3) := by decide +kernel
theorem dX17_init_56 : decode cX17_init 56 = .ok (.aload_n 0, 1) := by decide +kernel
theorem dX17_init_57 : decode cX17_init 57 = .ok (.aload_n 0, 1) := by decide +kernel
theorem dX17_init_58 : decode cX17_init 58 = .ok (.getfield 13, 3) := by decide +kernel
theorem dX17_init_61 : decode cX17_init 61 = .ok (.ifCond .ne 11, 3) := by decide +kernel
theorem dX17_init_64 : decode cX17_init 64 = .ok (.aload_n 1, 1) := by decide +kernel
theorem dX17_init_65 : decode cX17_init 65 = .ok (.iload_n 2, 1) := by decide +kernel
theorem dX17_init_66 : decode cX17_init 66 = .ok (.invokevirtual 7, 3) := by decide +kernel
theorem dX17_init_69 : decode cX17_init 69 = .ok (.goto 20, 3) := by decide +kernel
theorem dX17_init_72 : decode cX17_init 72 = .ok (.aload_n 0, 1) := by decide +kernel
theorem dX17_init_73 : decode cX17_init 73 = .ok (.getfield 13, 3) := by decide +kernel
theorem dX17_init_76 : decode cX17_init 76 = .ok (.iconst 1, 1) := by decide +kernel
theorem dX17_init_77 : decode cX17_init 77 = .ok (.if_icmp .ne 11, 3) := by decide +kernel
theorem dX17_init_80 : decode cX17_init 80 = .ok (.aload_n 1, 1) := by decide +kernel
theorem dX17_init_81 : decode cX17_init 81 = .ok (.iload_n 3, 1) := by decide +kernel
theorem dX17_init_82 : decode cX17_init 82 = .ok (.invokevirtual 7, 3) := by decide +kernel
theorem dX17_init_85 : decode cX17_init 85 = .ok (.goto 4, 3) := by decide +kernel
theorem dX17_init_88 : decode cX17_init 88 = .ok (.iconst 0, 1) := by decide +kernel
theorem dX17_init_89 : decode cX17_init 89 = .ok (.putfield 19, 3) := by decide +kernel
theorem dX17_init_92 : decode cX17_init 92 = .ok (.aload_n 0, 1) := by decide +kernel
theorem dX17_init_93 : decode cX17_init 93 = .ok (.aload_n 1, 1) := by decide +kernel
theorem dX17_init_94 : decode cX17_init 94 = .ok (.iconst 3, 1) := by decide +kernel
theorem dX17_init_95 : decode cX17_init 95 = .ok (.invokevirtual 7, 3) := by decide +kernel
theorem dX17_init_98 : decode cX17_init 98 = .ok (.ifCond .ne 7, 3) := by decide +kernel
theorem dX17_init_101 : decode cX17_init 101 = .ok (.aconst_null, 1) := by decide +kernel
theorem dX17_init_102 : decode cX17_init 102 = .ok (.goto 10, 3) := by decide +kernel
theorem dX17_init_105 : decode cX17_init 105 = .ok (.aload_n 1, 1) := by decide +kernel
theorem dX17_init_106 : decode cX17_init 106 = .ok (.iload_n 2, 1) := by decide +kernel
theorem dX17_init_107 : decode cX17_init 107 = .ok (.iload_n 3, 1) := by decide +kernel
theorem dX17_init_108 : decode cX17_init 108 = .ok (.iconst 1, 1) := by decide +kernel
theorem dX17_init_109 : decode cX17_init 109 = .ok (.invokestatic 22, 3) := by decide +kernel
theorem dX17_init_112 : decode cX17_init 112 = .ok (.putfield 28, 3) := by decide +kernel
theorem dX17_init_115 : decode cX17_init 115 = .ok (.return_, 1) := by decide +kernel
theorem dX17_text_0 : decode cX17_text 0 = .ok (.new 31, 3) := by decide +kernel
theorem dX17_text_3 : decode cX17_text 3 = .ok (.dup, 1) := by decide +kernel
theorem dX17_text_4 : decode cX17_text 4 = .ok (.invokespecial 33, 3) := by decide +kernel
theorem dX17_text_7 : decode cX17_text 7 = .ok (.aload_n 0, 1) := by decide +kernel
theorem dX17_text_8 : decode cX17_text 8 = .ok (.getfield 13, 3) := by decide +kernel
theorem dX17_text_11 : decode cX17_text 11 = .ok (.ifCond .ne 28, 3) := by decide +kernel
theorem dX17_text_14 : decode cX17_text 14 = .ok (.new 31, 3) := by decide +kernel
theorem dX17_text_17 : decode cX17_text 17 = .ok (.dup, 1) := by decide +kernel
theorem dX17_text_18 : decode cX17_text 18 = .ok (.invokespecial 33, 3) := by decide +kernel
theorem dX17_text_21 : decode cX17_text 21 = .ok (.ldc 34, 2) := by decide +kernel
theorem dX17_text_23 : decode cX17_text 23 = .ok (.invokevirtual 36, 3) := by decide +kernel
theorem dX17_text_26 : decode cX17_text 26 = .ok (.aload_n 0, 1) := by decide +kernel
theorem dX17_text_27 : decode cX17_text 27 = .ok (.getfield 19, 3) := by decide +kernel
theorem dX17_text_30 : decode cX17_text 30 = .ok (.invokevirtual 40, 3) := by decide +kernel
theorem dX17_text_33 : decode cX17_text 33 = .ok (.invokevirtual 43, 3) := by decide +kernel
theorem dX17_text_36 : decode cX17_text 36 = .ok (.goto 51, 3) := by decide +kernel
theorem dX17_text_39 : decode cX17_text 39 = .ok (.aload_n 0, 1) := by decide +kernel
theorem dX17_text_40 : decode cX17_text 40 = .ok (.getfield 13, 3) := by decide +kernel
theorem dX17_text_43 : decode cX17_text 43 = .ok (.iconst 1, 1) := by decide +kernel
theorem dX17_text_44 : decode cX17_text 44 = .ok (.if_icmp .ne 28, 3) := by decide +kernel
theorem dX17_text_47 : decode cX17_text 47 = .ok (.new 31, 3) := by decide +kernel
theorem dX17_text_50 : decode cX17_text 50 = .ok (.dup, 1) := by decide +kernel
theorem dX17_text_51 : decode cX17_text 51 = .ok (.invokespecial 33, 3) := by decide +kernel
theorem dX17_text_54 : decode cX17_text 54 = .ok (.ldc 47, 2) := by decide +kernel
theorem dX17_text_56 : decode cX17_text 56 = .ok (.invokevirtual 36, 3) := by decide +kernel
theorem dX17_text_59 : decode cX17_text 59 = .ok (.aload_n 0, 1) := by decide +kernel
theorem dX17_text_60 : decode cX17_text 60 = .ok (.getfield 19, 3) := by decide +kernel
theorem dX17_text_63 : decode cX17_text 63 = .ok (.invokevirtual 40, 3) := by decide +kernel
theorem dX17_text_66 : decode cX17_text 66 = .ok (.invokevirtual 43, 3) := by decide +kernel
theorem dX17_text_69 : decode cX17_text 69 = .ok (.goto 18, 3) := by decide +kernel
theorem dX17_text_72 : decode cX17_text 72 = .ok (.aload_n 0, 1) := by decide +kernel
theorem dX17_text_73 : decode cX17_text 73 = .ok (.getfield 13, 3) := by decide +kernel
theorem dX17_text_76 : decode cX17_text 76 = .ok (.iconst 2, 1) := by decide +kernel
theorem dX17_text_77 : decode cX17_text 77 = .ok (.if_icmp .ne 8, 3) := by decide +kernel
theorem dX17_text_80 : decode cX17_text 80 = .ok (.ldc 49, 2) := by decide +kernel
theorem dX17_text_82 : decode cX17_text 82 = .ok (.goto 5, 3) := by decide +kernel
theorem dX17_text_85 : decode cX17_text 85 = .ok (.ldc 51, 2) := by decide +kernel
theorem dX17_text_87 : decode cX17_text 87 = .ok (.invokevirtual 36, 3) := by decide +kernel
theorem dX17_text_90 : decode cX17_text 90 = .ok (.aload_n 0, 1) := by decide +kernel
theorem dX17_text_91 : decode cX17_text 91 = .ok (.getfield 28, 3) := by decide +kernel
theorem dX17_text_94 : decode cX17_text 94 = .ok (.ifnonnull 8, 3) := by decide +kernel
theorem dX17_text_97 : decode cX17_text 97 = .ok (.ldc 53, 2) := by decide +kernel
theorem dX17_text_99 : decode cX17_text 99 = .ok (.goto 33, 3) := by decide +kernel
theorem dX17_text_102 : decode cX17_text 102 = .ok (.new 31, 3) := by decide +kernel
theorem dX17_text_105 : decode cX17_text 105 = .ok (.dup, 1) := by decide +kernel
theorem dX17_text_106 : decode cX17_text 106 = .ok (.invokespecial 33, 3) := by decide +kernel
theorem dX17_text_109 : decode cX17_text 109 = .ok (.ldc 55, 2) := by decide +kernel
theorem dX17_text_111 : decode cX17_text 111 = .ok (.invokevirtual 36, 3) := by decide +kernel
theorem dX17_text_114 : decode cX17_text 114 = .ok (.aload_n 0, 1) := by decide +kernel
theorem dX17_text_115 : decode cX17_text 115 = .ok (.getfield 28, 3) := by decide +kernel
theorem dX17_text_118 : decode cX17_text 118 = .ok (.invokevirtual 57, 3) := by decide +kernel
theorem dX17_text_121 : decode cX17_text 121 = .ok (.invokevirtual 36, 3) := by decide +kernel
theorem dX17_text_124 : decode cX17_text 124 = .ok (.ldc 53, 2) := by decide +kernel
theorem dX17_text_126 : decode cX17_text 126 = .ok (.invokevirtual 36, 3) := by decide +kernel
theorem dX17_text_129 : decode cX17_text 129 = .ok (.invokevirtual 43, 3) := by decide +kernel
theorem dX17_text_132 : decode cX17_text 132 = .ok (.invokevirtual 36, 3) := by decide +kernel
theorem dX17_text_135 : decode cX17_text 135 = .ok (.invokevirtual 43, 3) := by decide +kernel
theorem dX17_text_138 : decode cX17_text 138 = .ok (.areturn, 1) := by decide +kernel
theorem dX17_carryOut_0 : decode cX17_carryOut 0 = .ok (.aload_n 0, 1) := by decide +kernel
theorem dX17_carryOut_1 : decode cX17_carryOut 1 = .ok (.getfield 28, 3) := by decide +kernel
theorem dX17_carryOut_4 : decode cX17_carryOut 4 = .ok (.ifnull 15, 3) := by decide +kernel
theorem dX17_carryOut_7 : decode cX17_carryOut 7 = .ok (.aload_n 0, 1) := by decide +kernel
theorem dX17_carryOut_8 : decode cX17_carryOut 8 = .ok (.getfield 28, 3) := by decide +kernel
theorem dX17_carryOut_11 : decode cX17_carryOut 11 = .ok (.aload_n 1, 1) := by decide +kernel
theorem dX17_carryOut_12 : decode cX17_carryOut 12 = .ok (.invokevirtual 60, 3) := by decide +kernel
theorem dX17_carryOut_15 : decode cX17_carryOut 15 = .ok (.ifCond .ne 4, 3) := by decide +kernel
theorem dX17_carryOut_18 : decode cX17_carryOut 18 = .ok (.return_, 1) := by decide +kernel
theorem dX17_carryOut_19 : decode cX17_carryOut 19 = .ok (.aload_n 0, 1) := by decide +kernel
theorem dX17_carryOut_20 : decode cX17_carryOut 20 = .ok (.getfield 13, 3) := by decide +kernel
theorem dX17_carryOut_23 : decode cX17_carryOut 23 = .ok (.ifCond .ne 15, 3) := by decide +kernel
theorem dX17_carryOut_26 : decode cX17_carryOut 26 = .ok (.aload_n 1, 1) := by decide +kernel
theorem dX17_carryOut_27 : decode cX17_carryOut 27 = .ok (.aload_n 0, 1) := by decide +kernel
theorem dX17_carryOut_28 : decode cX17_carryOut 28 = .ok (.getfield 19, 3) := by decide +kernel
theorem dX17_carryOut_31 : decode cX17_carryOut 31 = .ok (.invokevirtual 64, 3) := by decide +kernel
theorem dX17_carryOut_34 : decode cX17_carryOut 34 = .ok (.pop, 1) := by decide +kernel
theorem dX17_carryOut_35 : decode cX17_carryOut 35 = .ok (.goto 44, 3) := by decide +kernel
theorem dX17_carryOut_38 : decode cX17_carryOut 38 = .ok (.aload_n 0, 1) := by decide +kernel
theorem dX17_carryOut_39 : decode cX17_carryOut 39 = .ok (.getfield 13, 3) := by decide +kernel
theorem dX17_carryOut_42 : decode cX17_carryOut 42 = .ok (.iconst 1, 1) := by decide +kernel
theorem dX17_carryOut_43 : decode cX17_carryOut 43 = .ok (.if_icmp .ne 15, 3) := by decide +kernel
theorem dX17_carryOut_46 : decode cX17_carryOut 46 = .ok (.aload_n 1, 1) := by decide +kernel
theorem dX17_carryOut_47 : decode cX17_carryOut 47 = .ok (.aload_n 0, 1) := by decide +kernel
theorem dX17_carryOut_48 : decode cX17_carryOut 48 = .ok (.getfield 19, 3) := by decide +kernel
theorem dX17_carryOut_51 : decode cX17_carryOut 51 = .ok (.invokevirtual 70, 3) := by decide +kernel
theorem dX17_carryOut_54 : decode cX17_carryOut 54 = .ok (.pop, 1) := by decide +kernel
theorem dX17_carryOut_55 : decode cX17_carryOut 55 = .ok (.goto 24, 3) := by decide +kernel
theorem dX17_carryOut_58 : decode cX17_carryOut 58 = .ok (.aload_n 0, 1) := by decide +kernel
theorem dX17_carryOut_59 : decode cX17_carryOut 59 = .ok (.getfield 13, 3) := by decide +kernel
theorem dX17_carryOut_62 : decode cX17_carryOut 62 = .ok (.iconst 2, 1) := by decide +kernel
theorem dX17_carryOut_63 : decode cX17_carryOut 63 = .ok (.if_icmp .ne 11, 3) := by decide +kernel
theorem dX17_carryOut_66 : decode cX17_carryOut 66 = .ok (.aload_n 1, 1) := by decide +kernel
theorem dX17_carryOut_67 : decode cX17_carryOut 67 = .ok (.invokevirtual 73, 3) := by decide +kernel
theorem dX17_carryOut_70 : decode cX17_carryOut 70 = .ok (.pop, 1) := by decide +kernel
theorem dX17_carryOut_71 : decode cX17_carryOut 71 = .ok (.goto 8, 3) := by decide +kernel
theorem dX17_carryOut_74 : decode cX17_carryOut 74 = .ok (.aload_n 1, 1) := by decide +kernel
theorem dX17_carryOut_75 : decode cX17_carryOut 75 = .ok (.invokevirtual 77, 3) := by decide +kernel
theorem dX17_carryOut_78 : decode cX17_carryOut 78 = .ok (.pop, 1) := by decide +kernel
theorem dX17_carryOut_79 : decode cX17_carryOut 79 = .ok (.return_, 1) := by decide +kernel
theorem dX18_init_0 : decode cX18_init 0 = .ok (.aload_n 0, 1) := by decide +kernel
theorem dX18_init_1 : decode cX18_init 1 = .ok (.invokespecial 1, 3) := by decide +kernel
theorem dX18_init_4 : decode cX18_init 4 = .ok (.aload_n 0, 1) := by decide +kernel
theorem dX18_init_5 : decode cX18_init 5 = .ok (.iconst 0, 1) := by decide +kernel
theorem dX18_init_6 : decode cX18_init 6 = .ok (.anewarray 7, 3) := by decide +kernel
theorem dX18_init_9 : decode cX18_init 9 = .ok (.putfield 9, 3) := by decide +kernel
theorem dX18_init_12 : decode cX18_init 12 = .ok (.aload_n 0, 1) := by decide +kernel
theorem dX18_init_13 : decode cX18_init 13 = .ok (.iconst 0, 1) := by decide +kernel
theorem dX18_init_14 : decode cX18_init 14 = .ok (.anewarray 15, 3) := by decide +kernel
theorem dX18_init_17 : decode cX18_init 17 = .ok (.putfield 17, 3) := by decide +kernel
theorem dX18_init_20 : decode cX18_init 20 = .ok (.aload_n 0, 1) := by decide +kernel
theorem dX18_init_21 : decode cX18_init 21 = .ok (.iconst 0, 1) := by decide +kernel
theorem dX18_init_22 : decode cX18_init 22 = .ok (.anewarray 21, 3) := by decide +kernel
theorem dX18_init_25 : decode cX18_init 25 = .ok (.putfield 23, 3) := by decide +kernel
theorem dX18_init_28 : decode cX18_init 28 = .ok (.aload_n 0, 1) := by decide +kernel
theorem dX18_init_29 : decode cX18_init 29 = .ok (.bipush 20, 2) := by decide +kernel
theorem dX18_init_31 : decode cX18_init 31 = .ok (.putfield 27, 3) := by decide +kernel
theorem dX18_init_34 : decode cX18_init 34 = .ok (.aload_n 0, 1) := by decide +kernel
theorem dX18_init_35 : decode cX18_init 35 = .ok (.iconst 3, 1) := by decide +kernel
theorem dX18_init_36 : decode cX18_init 36 = .ok (.putfield 31, 3) := by decide +kernel
theorem dX18_init_39 : decode cX18_init 39 = .ok (.aload_n 0, 1) := by decide +kernel
theorem dX18_init_40 : decode cX18_init 40 = .ok (.iconst 3, 1) := by decide +kernel
theorem dX18_init_41 : decode cX18_init 41 = .ok (.putfield 34, 3) := by decide +kernel
theorem dX18_init_44 : decode cX18_init 44 = .ok (.return_, 1) := by decide +kernel
theorem dX18_likes_0 : decode cX18_likes 0 = .ok (.aload_n 1, 1) := by decide +kernel
theorem dX18_likes_1 : decode cX18_likes 1 = .ok (.getfield 66, 3) := by decide +kernel
theorem dX18_likes_4 : decode cX18_likes 4 = .ok (.iconst 1, 1) := by decide +kernel
theorem dX18_likes_5 : decode cX18_likes 5 = .ok (.if_icmp .ne 32, 3) := by decide +kernel
theorem dX18_likes_8 : decode cX18_likes 8 = .ok (.iload_n 2, 1) := by decide +kernel
theorem dX18_likes_9 : decode cX18_likes 9 = .ok (.aload_n 1, 1) := by decide +kernel
theorem dX18_likes_10 : decode cX18_likes 10 = .ok (.getfield 57, 3) := by decide +kernel
theorem dX18_likes_13 : decode cX18_likes 13 = .ok (.if_icmp .lt 24, 3) := by decide +kernel
theorem dX18_likes_16 : decode cX18_likes 16 = .ok (.iload_n 2, 1) := by decide +kernel
theorem dX18_likes_17 : decode cX18_likes 17 = .ok (.aload_n 1, 1) := by decide +kernel
theorem dX18_likes_18 : decode cX18_likes 18 = .ok (.getfield 60, 3) := by decide +kernel
theorem dX18_likes_21 : decode cX18_likes 21 = .ok (.if_icmp .gt 16, 3) := by decide +kernel
theorem dX18_likes_24 : decode cX18_likes 24 = .ok (.aload_n 0, 1) := by decide +kernel
theorem dX18_likes_25 : decode cX18_likes 25 = .ok (.getfield 27, 3) := by decide +kernel
theorem dX18_likes_28 : decode cX18_likes 28 = .ok (.bipush 14, 2) := by decide +kernel
theorem dX18_likes_30 : decode cX18_likes 30 = .ok (.if_icmp .le 7, 3) := by decide +kernel
theorem dX18_likes_33 : decode cX18_likes 33 = .ok (.iconst 1, 1) := by decide +kernel
theorem dX18_likes_34 : decode cX18_likes 34 = .ok (.goto 4, 3) := by decide +kernel
theorem dX18_likes_37 : decode cX18_likes 37 = .ok (.iconst 0, 1) := by decide +kernel
theorem dX18_likes_38 : decode cX18_likes 38 = .ok (.ireturn, 1) := by decide +kernel
theorem dX18_isSteeped_0 : decode cX18_isSteeped 0 = .ok (.aload_n 0, 1) := by decide +kernel
theorem dX18_isSteeped_1 : decode cX18_isSteeped 1 = .ok (.getfield 9, 3) := by decide +kernel
theorem dX18_isSteeped_4 : decode cX18_isSteeped 4 = .ok (.iload_n 1, 1) := by decide +kernel
theorem dX18_isSteeped_5 : decode cX18_isSteeped 5 = .ok (.aaload, 1) := by decide +kernel
theorem dX18_isSteeped_6 : decode cX18_isSteeped 6 = .ok (.getfield 52, 3) := by decide +kernel
theorem dX18_isSteeped_9 : decode cX18_isSteeped 9 = .ok (.iconst 1, 1) := by decide +kernel
theorem dX18_isSteeped_10 : decode cX18_isSteeped 10 = .ok (.if_icmp .eq 5, 3) := by decide +kernel
theorem dX18_isSteeped_13 : decode cX18_isSteeped 13 = .ok (.iconst 0, 1) := by decide +kernel
theorem dX18_isSteeped_14 : decode cX18_isSteeped 14 = .ok (.ireturn, 1) := by decide +kernel
theorem dX18_isSteeped_15 : decode cX18_isSteeped 15 = .ok (.aload_n 0, 1) := by decide +kernel
theorem dX18_isSteeped_16 : decode cX18_isSteeped 16 = .ok (.getfield 9, 3) := by decide +kernel
theorem dX18_isSteeped_19 : decode cX18_isSteeped 19 = .ok (.iload_n 1, 1) := by decide +kernel
theorem dX18_isSteeped_20 : decode cX18_isSteeped 20 = .ok (.aaload, 1) := by decide +kernel
theorem dX18_isSteeped_21 : decode cX18_isSteeped 21 = .ok (.iconst 2, 1) := by decide +kernel
theorem dX18_isSteeped_22 : decode cX18_isSteeped 22 = .ok (.putfield 52, 3) := by decide +kernel
theorem dX18_isSteeped_25 : decode cX18_isSteeped 25 = .ok (.aload_n 0, 1) := by decide +kernel
theorem dX18_isSteeped_26 : decode cX18_isSteeped 26 = .ok (.aload_n 0, 1) := by decide +kernel
theorem dX18_isSteeped_27 : decode cX18_isSteeped 27 = .ok (.getfield 70, 3) := by decide +kernel
theorem dX18_isSteeped_30 : decode cX18_isSteeped 30 = .ok (.aload_n 0, 1) := by decide +kernel
theorem dX18_isSteeped_31 : decode cX18_isSteeped 31 = .ok (.getfield 9, 3) := by decide +kernel
theorem dX18_isSteeped_34 : decode cX18_isSteeped 34 = .ok (.iload_n 1, 1) := by decide +kernel
theorem dX18_isSteeped_35 : decode cX18_isSteeped 35 = .ok (.aaload, 1) := by decide +kernel
theorem dX18_isSteeped_36 : decode cX18_isSteeped 36 = .ok (.getfield 43, 3) := by decide +kernel
theorem dX18_isSteeped_39 : decode cX18_isSteeped 39 = .ok (.iadd, 1) := by decide +kernel
theorem dX18_isSteeped_40 : decode cX18_isSteeped 40 = .ok (.bipush 30, 2) := by decide +kernel
theorem dX18_isSteeped_42 : decode cX18_isSteeped 42 = .ok (.if_icmp .le 8, 3) := by decide +kernel
theorem dX18_isSteeped_45 : decode cX18_isSteeped 45 = .ok (.bipush 30, 2) := by decide +kernel
theorem dX18_isSteeped_47 : decode cX18_isSteeped 47 = .ok (.goto 17, 3) := by decide +kernel
theorem dX18_isSteeped_50 : decode cX18_isSteeped 50 = .ok (.aload_n 0, 1) := by decide +kernel
theorem dX18_isSteeped_51 : decode cX18_isSteeped 51 = .ok (.getfield 70, 3) := by decide +kernel
theorem dX18_isSteeped_54 : decode cX18_isSteeped 54 = .ok (.aload_n 0, 1) := by decide +kernel
theorem dX18_isSteeped_55 : decode cX18_isSteeped 55 = .ok (.getfield 9, 3) := by decide +kernel
theorem dX18_isSteeped_58 : decode cX18_isSteeped 58 = .ok (.iload_n 1, 1) := by decide +kernel
theorem dX18_isSteeped_59 : decode cX18_isSteeped 59 = .ok (.aaload, 1) := by decide +kernel
theorem dX18_isSteeped_60 : decode cX18_isSteeped 60 = .ok (.getfield 43, 3) := by decide +kernel
theorem dX18_isSteeped_63 : decode cX18_isSteeped 63 = .ok (.iadd, 1) := by decide +kernel
theorem dX18_isSteeped_64 : decode cX18_isSteeped 64 = .ok (.putfield 70, 3) := by decide +kernel
theorem dX18_isSteeped_67 : decode cX18_isSteeped 67 = .ok (.iconst 1, 1) := by decide +kernel
theorem dX18_isSteeped_68 : decode cX18_isSteeped 68 = .ok (.ireturn, 1) := by decide +kernel
theorem dX18_isSqueezed_0 : decode cX18_isSqueezed 0 = .ok (.aload_n 0, 1) := by decide +kernel
theorem dX18_isSqueezed_1 : decode cX18_isSqueezed 1 = .ok (.getfield 31, 3) := by decide +kernel
theorem dX18_isSqueezed_4 : decode cX18_isSqueezed 4 = .ok (.ifCond .ne 5, 3) := by decide +kernel
theorem dX18_isSqueezed_7 : decode cX18_isSqueezed 7 = .ok (.iconst 0, 1) := by decide +kernel
theorem dX18_isSqueezed_8 : decode cX18_isSqueezed 8 = .ok (.ireturn, 1) := by decide +kernel
theorem dX18_isSqueezed_9 : decode cX18_isSqueezed 9 = .ok (.aload_n 0, 1) := by decide +kernel
theorem dX18_isSqueezed_10 : decode cX18_isSqueezed 10 = .ok (.dup, 1) := by decide +kernel
theorem dX18_isSqueezed_11 : decode cX18_isSqueezed 11 = .ok (.getfield 31, 3) := by decide +kernel
theorem dX18_isSqueezed_14 : decode cX18_isSqueezed 14 = .ok (.iconst 1, 1) := by decide +kernel
theorem dX18_isSqueezed_15 : decode cX18_isSqueezed 15 = .ok (.isub, 1) := by decide +kernel
theorem dX18_isSqueezed_16 : decode cX18_isSqueezed 16 = .ok (.putfield 31, 3) := by decide +kernel
theorem dX18_isSqueezed_19 : decode cX18_isSqueezed 19 = .ok (.aload_n 0, 1) := by decide +kernel
theorem dX18_isSqueezed_20 : decode cX18_isSqueezed 20 = .ok (.aload_n 0, 1) := by decide +kernel
theorem dX18_isSqueezed_21 : decode cX18_isSqueezed 21 = .ok (.getfield 73, 3) := by decide +kernel
theorem dX18_isSqueezed_24 : decode cX18_isSqueezed 24 = .ok (.bipush 24, 2) := by decide +kernel
theorem dX18_isSqueezed_26 : decode cX18_isSqueezed 26 = .ok (.if_icmp .le 8, 3) := by decide +kernel
theorem dX18_isSqueezed_29 : decode cX18_isSqueezed 29 = .ok (.bipush 30, 2) := by decide +kernel
theorem dX18_isSqueezed_31 : decode cX18_isSqueezed 31 = .ok (.goto 10, 3) := by decide +kernel
theorem dX18_isSqueezed_34 : decode cX18_isSqueezed 34 = .ok (.aload_n 0, 1) := by decide +kernel
theorem dX18_isSqueezed_35 : decode cX18_isSqueezed 35 = .ok (.getfield 73, 3) := by decide +kernel
theorem dX18_isSqueezed_38 : decode cX18_isSqueezed 38 = .ok (.bipush 6, 2) := by decide +kernel
theorem dX18_isSqueezed_40 : decode cX18_isSqueezed 40 = .ok (.iadd, 1) := by decide +kernel
theorem dX18_isSqueezed_41 : decode cX18_isSqueezed 41 = .ok (.putfield 73, 3) := by decide +kernel
theorem dX18_isSqueezed_44 : decode cX18_isSqueezed 44 = .ok (.iconst 1, 1) := by decide +kernel
theorem dX18_isSqueezed_45 : decode cX18_isSqueezed 45 = .ok (.ireturn, 1) := by decide +kernel
theorem dX18_isCalmed_0 : decode cX18_isCalmed 0 = .ok (.aload_n 0, 1) := by decide +kernel
theorem dX18_isCalmed_1 : decode cX18_isCalmed 1 = .ok (.getfield 34, 3) := by decide +kernel
theorem dX18_isCalmed_4 : decode cX18_isCalmed 4 = .ok (.ifCond .ne 5, 3) := by decide +kernel
theorem dX18_isCalmed_7 : decode cX18_isCalmed 7 = .ok (.iconst 0, 1) := by decide +kernel
theorem dX18_isCalmed_8 : decode cX18_isCalmed 8 = .ok (.ireturn, 1) := by decide +kernel
theorem dX18_isCalmed_9 : decode cX18_isCalmed 9 = .ok (.aload_n 0, 1) := by decide +kernel
theorem dX18_isCalmed_10 : decode cX18_isCalmed 10 = .ok (.dup, 1) := by decide +kernel
theorem dX18_isCalmed_11 : decode cX18_isCalmed 11 = .ok (.getfield 34, 3) := by decide +kernel
theorem dX18_isCalmed_14 : decode cX18_isCalmed 14 = .ok (.iconst 1, 1) := by decide +kernel
theorem dX18_isCalmed_15 : decode cX18_isCalmed 15 = .ok (.isub, 1) := by decide +kernel
theorem dX18_isCalmed_16 : decode cX18_isCalmed 16 = .ok (.putfield 34, 3) := by decide +kernel
theorem dX18_isCalmed_19 : decode cX18_isCalmed 19 = .ok (.aload_n 0, 1) := by decide +kernel
theorem dX18_isCalmed_20 : decode cX18_isCalmed 20 = .ok (.aload_n 0, 1) := by decide +kernel
theorem dX18_isCalmed_21 : decode cX18_isCalmed 21 = .ok (.getfield 73, 3) := by decide +kernel
theorem dX18_isCalmed_24 : decode cX18_isCalmed 24 = .ok (.iconst 5, 1) := by decide +kernel
theorem dX18_isCalmed_25 : decode cX18_isCalmed 25 = .ok (.if_icmp .ge 7, 3) := by decide +kernel
theorem dX18_isCalmed_28 : decode cX18_isCalmed 28 = .ok (.iconst 0, 1) := by decide +kernel
theorem dX18_isCalmed_29 : decode cX18_isCalmed 29 = .ok (.goto 9, 3) := by decide +kernel
theorem dX18_isCalmed_32 : decode cX18_isCalmed 32 = .ok (.aload_n 0, 1) := by decide +kernel
theorem dX18_isCalmed_33 : decode cX18_isCalmed 33 = .ok (.getfield 73, 3) := by decide +kernel
theorem dX18_isCalmed_36 : decode cX18_isCalmed 36 = .ok (.iconst 5, 1) := by decide +kernel
theorem dX18_isCalmed_37 : decode cX18_isCalmed 37 = .ok (.isub, 1) := by decide +kernel
theorem dX18_isCalmed_38 : decode cX18_isCalmed 38 = .ok (.putfield 73, 3) := by decide +kernel
theorem dX18_isCalmed_41 : decode cX18_isCalmed 41 = .ok (.iconst 1, 1) := by decide +kernel
theorem dX18_isCalmed_42 : decode cX18_isCalmed 42 = .ok (.ireturn, 1) := by decide +kernel
theorem dX18_isServed_0 : decode cX18_isServed 0 = .ok (.aload_n 0, 1) := by decide +kernel
theorem dX18_isServed_1 : decode cX18_isServed 1 = .ok (.aload_n 0, 1) := by decide +kernel
theorem dX18_isServed_2 : decode cX18_isServed 2 = .ok (.getfield 17, 3) := by decide +kernel
theorem dX18_isServed_5 : decode cX18_isServed 5 = .ok (.iload_n 1, 1) := by decide +kernel
theorem dX18_isServed_6 : decode cX18_isServed 6 = .ok (.aaload, 1) := by decide +kernel
theorem dX18_isServed_7 : decode cX18_isServed 7 = .ok (.aload_n 0, 1) := by decide +kernel
theorem dX18_isServed_8 : decode cX18_isServed 8 = .ok (.getfield 70, 3) := by decide +kernel
theorem dX18_isServed_11 : decode cX18_isServed 11 = .ok (.invokevirtual 82, 3) := by decide +kernel
theorem dX18_isServed_14 : decode cX18_isServed 14 = .ok (.ifCond .ne 5, 3) := by decide +kernel
theorem dX18_isServed_17 : decode cX18_isServed 17 = .ok (.iconst 0, 1) := by decide +kernel
theorem dX18_isServed_18 : decode cX18_isServed 18 = .ok (.ireturn, 1) := by decide +kernel
theorem dX18_isServed_19 : decode cX18_isServed 19 = .ok (.aload_n 0, 1) := by decide +kernel
theorem dX18_isServed_20 : decode cX18_isServed 20 = .ok (.getfield 17, 3) := by decide +kernel
theorem dX18_isServed_23 : decode cX18_isServed 23 = .ok (.iload_n 1, 1) := by decide +kernel
theorem dX18_isServed_24 : decode cX18_isServed 24 = .ok (.aaload, 1) := by decide +kernel
theorem dX18_isServed_25 : decode cX18_isServed 25 = .ok (.iconst 2, 1) := by decide +kernel
theorem dX18_isServed_26 : decode cX18_isServed 26 = .ok (.putfield 66, 3) := by decide +kernel
theorem dX18_isServed_29 : decode cX18_isServed 29 = .ok (.aload_n 0, 1) := by decide +kernel
theorem dX18_isServed_30 : decode cX18_isServed 30 = .ok (.dup, 1) := by decide +kernel
theorem dX18_isServed_31 : decode cX18_isServed 31 = .ok (.getfield 76, 3) := by decide +kernel
theorem dX18_isServed_34 : decode cX18_isServed 34 = .ok (.aload_n 0, 1) := by decide +kernel
theorem dX18_isServed_35 : decode cX18_isServed 35 = .ok (.getfield 70, 3) := by decide +kernel
theorem dX18_isServed_38 : decode cX18_isServed 38 = .ok (.iadd, 1) := by decide +kernel
theorem dX18_isServed_39 : decode cX18_isServed 39 = .ok (.putfield 76, 3) := by decide +kernel
theorem dX18_isServed_42 : decode cX18_isServed 42 = .ok (.aload_n 0, 1) := by decide +kernel
theorem dX18_isServed_43 : decode cX18_isServed 43 = .ok (.aload_n 0, 1) := by decide +kernel
theorem dX18_isServed_44 : decode cX18_isServed 44 = .ok (.getfield 70, 3) := by decide +kernel
theorem dX18_isServed_47 : decode cX18_isServed 47 = .ok (.iconst 3, 1) := by decide +kernel
theorem dX18_isServed_48 : decode cX18_isServed 48 = .ok (.if_icmp .ge 7, 3) := by decide +kernel
theorem dX18_isServed_51 : decode cX18_isServed 51 = .ok (.iconst 0, 1) := by decide +kernel
theorem dX18_isServed_52 : decode cX18_isServed 52 = .ok (.goto 9, 3) := by decide +kernel
theorem dX18_isServed_55 : decode cX18_isServed 55 = .ok (.aload_n 0, 1) := by decide +kernel
theorem dX18_isServed_56 : decode cX18_isServed 56 = .ok (.getfield 70, 3) := by decide +kernel
theorem dX18_isServed_59 : decode cX18_isServed 59 = .ok (.iconst 3, 1) := by decide +kernel
theorem dX18_isServed_60 : decode cX18_isServed 60 = .ok (.isub, 1) := by decide +kernel
theorem dX18_isServed_61 : decode cX18_isServed 61 = .ok (.putfield 70, 3) := by decide +kernel
theorem dX18_isServed_64 : decode cX18_isServed 64 = .ok (.iconst 1, 1) := by decide +kernel
theorem dX18_isServed_65 : decode cX18_isServed 65 = .ok (.ireturn, 1) := by decide +kernel
theorem dX18_come_0 : decode cX18_come 0 = .ok (.aload_n 0, 1) := by decide +kernel
theorem dX18_come_1 : decode cX18_come 1 = .ok (.getfield 9, 3) := by decide +kernel
theorem dX18_come_4 : decode cX18_come 4 = .ok (.astore_n 1, 1) := by decide +kernel
theorem dX18_come_5 : decode cX18_come 5 = .ok (.aload_n 1, 1) := by decide +kernel
theorem dX18_come_6 : decode cX18_come 6 = .ok (.arraylength, 1) := by decide +kernel
theorem dX18_come_7 : decode cX18_come 7 = .ok (.istore_n 2, 1) := by decide +kernel
theorem dX18_come_8 : decode cX18_come 8 = .ok (.iconst 0, 1) := by decide +kernel
theorem dX18_come_9 : decode cX18_come 9 = .ok (.istore_n 3, 1) := by decide +kernel
theorem dX18_come_10 : decode cX18_come 10 = .ok (.iload_n 3, 1) := by decide +kernel
theorem dX18_come_11 : decode cX18_come 11 = .ok (.iload_n 2, 1) := by decide +kernel
theorem dX18_come_12 : decode cX18_come 12 = .ok (.if_icmp .ge 32, 3) := by decide +kernel
theorem dX18_come_15 : decode cX18_come 15 = .ok (.aload_n 1, 1) := by decide +kernel
theorem dX18_come_16 : decode cX18_come 16 = .ok (.iload_n 3, 1) := by decide +kernel
theorem dX18_come_17 : decode cX18_come 17 = .ok (.aaload, 1) := by decide +kernel
theorem dX18_come_18 : decode cX18_come 18 = .ok (.astore 4, 2) := by decide +kernel
theorem dX18_come_20 : decode cX18_come 20 = .ok (.aload 4, 2) := by decide +kernel
theorem dX18_come_22 : decode cX18_come 22 = .ok (.getfield 46, 3) := by decide +kernel
theorem dX18_come_25 : decode cX18_come 25 = .ok (.aload_n 0, 1) := by decide +kernel
theorem dX18_come_26 : decode cX18_come 26 = .ok (.getfield 67, 3) := by decide +kernel
theorem dX18_come_29 : decode cX18_come 29 = .ok (.if_icmp .ne 9, 3) := by decide +kernel
theorem dX18_come_32 : decode cX18_come 32 = .ok (.aload 4, 2) := by decide +kernel
theorem dX18_come_34 : decode cX18_come 34 = .ok (.iconst 1, 1) := by decide +kernel
theorem dX18_come_35 : decode cX18_come 35 = .ok (.putfield 52, 3) := by decide +kernel
theorem dX18_come_38 : decode cX18_come 38 = .ok (.iinc 3 1, 3) := by decide +kernel
theorem dX18_come_41 : decode cX18_come 41 = .ok (.goto (-31), 3) := by decide +kernel
theorem dX18_come_44 : decode cX18_come 44 = .ok (.aload_n 0, 1) := by decide +kernel
theorem dX18_come_45 : decode cX18_come 45 = .ok (.getfield 17, 3) := by decide +kernel
theorem dX18_come_48 : decode cX18_come 48 = .ok (.astore_n 1, 1) := by decide +kernel
theorem dX18_come_49 : decode cX18_come 49 = .ok (.aload_n 1, 1) := by decide +kernel
theorem dX18_come_50 : decode cX18_come 50 = .ok (.arraylength, 1) := by decide +kernel
theorem dX18_come_51 : decode cX18_come 51 = .ok (.istore_n 2, 1) := by decide +kernel
theorem dX18_come_52 : decode cX18_come 52 = .ok (.iconst 0, 1) := by decide +kernel
theorem dX18_come_53 : decode cX18_come 53 = .ok (.istore_n 3, 1) := by decide +kernel
theorem dX18_come_54 : decode cX18_come 54 = .ok (.iload_n 3, 1) := by decide +kernel
theorem dX18_come_55 : decode cX18_come 55 = .ok (.iload_n 2, 1) := by decide +kernel
theorem dX18_come_56 : decode cX18_come 56 = .ok (.if_icmp .ge 32, 3) := by decide +kernel
theorem dX18_come_59 : decode cX18_come 59 = .ok (.aload_n 1, 1) := by decide +kernel
theorem dX18_come_60 : decode cX18_come 60 = .ok (.iload_n 3, 1) := by decide +kernel
theorem dX18_come_61 : decode cX18_come 61 = .ok (.aaload, 1) := by decide +kernel
theorem dX18_come_62 : decode cX18_come 62 = .ok (.astore 4, 2) := by decide +kernel
theorem dX18_come_64 : decode cX18_come 64 = .ok (.aload 4, 2) := by decide +kernel
theorem dX18_come_66 : decode cX18_come 66 = .ok (.getfield 56, 3) := by decide +kernel
theorem dX18_come_69 : decode cX18_come 69 = .ok (.aload_n 0, 1) := by decide +kernel
theorem dX18_come_70 : decode cX18_come 70 = .ok (.getfield 67, 3) := by decide +kernel
theorem dX18_come_73 : decode cX18_come 73 = .ok (.if_icmp .ne 9, 3) := by decide +kernel
theorem dX18_come_76 : decode cX18_come 76 = .ok (.aload 4, 2) := by decide +kernel
theorem dX18_come_78 : decode cX18_come 78 = .ok (.iconst 1, 1) := by decide +kernel
theorem dX18_come_79 : decode cX18_come 79 = .ok (.putfield 66, 3) := by decide +kernel
theorem dX18_come_82 : decode cX18_come 82 = .ok (.iinc 3 1, 3) := by decide +kernel
theorem dX18_come_85 : decode cX18_come 85 = .ok (.goto (-31), 3) := by decide +kernel
theorem dX18_come_88 : decode cX18_come 88 = .ok (.return_, 1) := by decide +kernel
theorem dX18_pass_0 : decode cX18_pass 0 = .ok (.aload_n 0, 1) := by decide +kernel
theorem dX18_pass_1 : decode cX18_pass 1 = .ok (.getfield 23, 3) := by decide +kernel
theorem dX18_pass_4 : decode cX18_pass 4 = .ok (.astore_n 1, 1) := by decide +kernel
theorem dX18_pass_5 : decode cX18_pass 5 = .ok (.aload_n 1, 1) := by decide +kernel
theorem dX18_pass_6 : decode cX18_pass 6 = .ok (.arraylength, 1) := by decide +kernel
theorem dX18_pass_7 : decode cX18_pass 7 = .ok (.istore_n 2, 1) := by decide +kernel
theorem dX18_pass_8 : decode cX18_pass 8 = .ok (.iconst 0, 1) := by decide +kernel
theorem dX18_pass_9 : decode cX18_pass 9 = .ok (.istore_n 3, 1) := by decide +kernel
theorem dX18_pass_10 : decode cX18_pass 10 = .ok (.iload_n 3, 1) := by decide +kernel
theorem dX18_pass_11 : decode cX18_pass 11 = .ok (.iload_n 2, 1) := by decide +kernel
theorem dX18_pass_12 : decode cX18_pass 12 = .ok (.if_icmp .ge 20, 3) := by decide +kernel
theorem dX18_pass_15 : decode cX18_pass 15 = .ok (.aload_n 1, 1) := by decide +kernel
theorem dX18_pass_16 : decode cX18_pass 16 = .ok (.iload_n 3, 1) := by decide +kernel
theorem dX18_pass_17 : decode cX18_pass 17 = .ok (.aaload, 1) := by decide +kernel
theorem dX18_pass_18 : decode cX18_pass 18 = .ok (.astore 4, 2) := by decide +kernel
theorem dX18_pass_20 : decode cX18_pass 20 = .ok (.aload 4, 2) := by decide +kernel
theorem dX18_pass_22 : decode cX18_pass 22 = .ok (.aload_n 0, 1) := by decide +kernel
theorem dX18_pass_23 : decode cX18_pass 23 = .ok (.invokevirtual 86, 3) := by decide +kernel
theorem dX18_pass_26 : decode cX18_pass 26 = .ok (.iinc 3 1, 3) := by decide +kernel
theorem dX18_pass_29 : decode cX18_pass 29 = .ok (.goto (-19), 3) := by decide +kernel
theorem dX18_pass_32 : decode cX18_pass 32 = .ok (.iconst 0, 1) := by decide +kernel
theorem dX18_pass_33 : decode cX18_pass 33 = .ok (.istore_n 1, 1) := by decide +kernel
theorem dX18_pass_34 : decode cX18_pass 34 = .ok (.iconst 0, 1) := by decide +kernel
theorem dX18_pass_35 : decode cX18_pass 35 = .ok (.istore_n 2, 1) := by decide +kernel
theorem dX18_pass_36 : decode cX18_pass 36 = .ok (.iconst 0, 1) := by decide +kernel
theorem dX18_pass_37 : decode cX18_pass 37 = .ok (.istore_n 3, 1) := by decide +kernel
theorem dX18_pass_38 : decode cX18_pass 38 = .ok (.aload_n 0, 1) := by decide +kernel
theorem dX18_pass_39 : decode cX18_pass 39 = .ok (.getfield 9, 3) := by decide +kernel
theorem dX18_pass_42 : decode cX18_pass 42 = .ok (.astore 4, 2) := by decide +kernel
theorem dX18_pass_44 : decode cX18_pass 44 = .ok (.aload 4, 2) := by decide +kernel
theorem dX18_pass_46 : decode cX18_pass 46 = .ok (.arraylength, 1) := by decide +kernel
theorem dX18_pass_47 : decode cX18_pass 47 = .ok (.istore 5, 2) := by decide +kernel
theorem dX18_pass_49 : decode cX18_pass 49 = .ok (.iconst 0, 1) := by decide +kernel
theorem dX18_pass_50 : decode cX18_pass 50 = .ok (.istore 6, 2) := by decide +kernel
theorem dX18_pass_52 : decode cX18_pass 52 = .ok (.iload 6, 2) := by decide +kernel
theorem dX18_pass_54 : decode cX18_pass 54 = .ok (.iload 5, 2) := by decide +kernel
theorem dX18_pass_56 : decode cX18_pass 56 = .ok (.if_icmp .ge 58, 3) := by decide +kernel
theorem dX18_pass_59 : decode cX18_pass 59 = .ok (.aload 4, 2) := by decide +kernel
theorem dX18_pass_61 : decode cX18_pass 61 = .ok (.iload 6, 2) := by decide +kernel
theorem dX18_pass_63 : decode cX18_pass 63 = .ok (.aaload, 1) := by decide +kernel
theorem dX18_pass_64 : decode cX18_pass 64 = .ok (.astore 7, 2) := by decide +kernel
theorem dX18_pass_66 : decode cX18_pass 66 = .ok (.aload 7, 2) := by decide +kernel
theorem dX18_pass_68 : decode cX18_pass 68 = .ok (.getfield 52, 3) := by decide +kernel
theorem dX18_pass_71 : decode cX18_pass 71 = .ok (.iconst 1, 1) := by decide +kernel
theorem dX18_pass_72 : decode cX18_pass 72 = .ok (.if_icmp .eq 6, 3) := by decide +kernel
theorem dX18_pass_75 : decode cX18_pass 75 = .ok (.goto 33, 3) := by decide +kernel
theorem dX18_pass_78 : decode cX18_pass 78 = .ok (.iinc 1 1, 3) := by decide +kernel
theorem dX18_pass_81 : decode cX18_pass 81 = .ok (.aload 7, 2) := by decide +kernel
theorem dX18_pass_83 : decode cX18_pass 83 = .ok (.getfield 39, 3) := by decide +kernel
theorem dX18_pass_86 : decode cX18_pass 86 = .ok (.ifCond .eq 14, 3) := by decide +kernel
theorem dX18_pass_89 : decode cX18_pass 89 = .ok (.iload_n 2, 1) := by decide +kernel
theorem dX18_pass_90 : decode cX18_pass 90 = .ok (.aload 7, 2) := by decide +kernel
theorem dX18_pass_92 : decode cX18_pass 92 = .ok (.getfield 43, 3) := by decide +kernel
theorem dX18_pass_95 : decode cX18_pass 95 = .ok (.iadd, 1) := by decide +kernel
theorem dX18_pass_96 : decode cX18_pass 96 = .ok (.istore_n 2, 1) := by decide +kernel
theorem dX18_pass_97 : decode cX18_pass 97 = .ok (.goto 11, 3) := by decide +kernel
theorem dX18_pass_100 : decode cX18_pass 100 = .ok (.iload_n 3, 1) := by decide +kernel
theorem dX18_pass_101 : decode cX18_pass 101 = .ok (.aload 7, 2) := by decide +kernel
theorem dX18_pass_103 : decode cX18_pass 103 = .ok (.getfield 43, 3) := by decide +kernel
theorem dX18_pass_106 : decode cX18_pass 106 = .ok (.iadd, 1) := by decide +kernel
theorem dX18_pass_107 : decode cX18_pass 107 = .ok (.istore_n 3, 1) := by decide +kernel
theorem dX18_pass_108 : decode cX18_pass 108 = .ok (.iinc 6 1, 3) := by decide +kernel
theorem dX18_pass_111 : decode cX18_pass 111 = .ok (.goto (-59), 3) := by decide +kernel
theorem dX18_pass_114 : decode cX18_pass 114 = .ok (.iload_n 1, 1) := by decide +kernel
theorem dX18_pass_115 : decode cX18_pass 115 = .ok (.ifCond .ne 42, 3) := by decide +kernel
theorem dX18_pass_118 : decode cX18_pass 118 = .ok (.aload_n 0, 1) := by decide +kernel
theorem dX18_pass_119 : decode cX18_pass 119 = .ok (.dup, 1) := by decide +kernel
theorem dX18_pass_120 : decode cX18_pass 120 = .ok (.getfield 27, 3) := by decide +kernel
theorem dX18_pass_123 : decode cX18_pass 123 = .ok (.aload_n 0, 1) := by decide +kernel
theorem dX18_pass_124 : decode cX18_pass 124 = .ok (.getfield 27, 3) := by decide +kernel
theorem dX18_pass_127 : decode cX18_pass 127 = .ok (.bipush 20, 2) := by decide +kernel
theorem dX18_pass_129 : decode cX18_pass 129 = .ok (.if_icmp .ge 7, 3) := by decide +kernel
theorem dX18_pass_132 : decode cX18_pass 132 = .ok (.iconst 1, 1) := by decide +kernel
theorem dX18_pass_133 : decode cX18_pass 133 = .ok (.goto 17, 3) := by decide +kernel
theorem dX18_pass_136 : decode cX18_pass 136 = .ok (.aload_n 0, 1) := by decide +kernel
theorem dX18_pass_137 : decode cX18_pass 137 = .ok (.getfield 27, 3) := by decide +kernel
theorem dX18_pass_140 : decode cX18_pass 140 = .ok (.bipush 20, 2) := by decide +kernel
theorem dX18_pass_142 : decode cX18_pass 142 = .ok (.if_icmp .le 7, 3) := by decide +kernel
theorem dX18_pass_145 : decode cX18_pass 145 = .ok (.iconst (-1), 1) := by decide +kernel
theorem dX18_pass_146 : decode cX18_pass 146 = .ok (.goto 4, 3) := by decide +kernel
theorem dX18_pass_149 : decode cX18_pass 149 = .ok (.iconst 0, 1) := by decide +kernel
theorem dX18_pass_150 : decode cX18_pass 150 = .ok (.iadd, 1) := by decide +kernel
theorem dX18_pass_151 : decode cX18_pass 151 = .ok (.putfield 27, 3) := by decide +kernel
theorem dX18_pass_154 : decode cX18_pass 154 = .ok (.goto 42, 3) := by decide +kernel
theorem dX18_pass_157 : decode cX18_pass 157 = .ok (.aload_n 0, 1) := by decide +kernel
theorem dX18_pass_158 : decode cX18_pass 158 = .ok (.dup, 1) := by decide +kernel
theorem dX18_pass_159 : decode cX18_pass 159 = .ok (.getfield 27, 3) := by decide +kernel
theorem dX18_pass_162 : decode cX18_pass 162 = .ok (.iload_n 2, 1) := by decide +kernel
theorem dX18_pass_163 : decode cX18_pass 163 = .ok (.iload_n 3, 1) := by decide +kernel
theorem dX18_pass_164 : decode cX18_pass 164 = .ok (.isub, 1) := by decide +kernel
theorem dX18_pass_165 : decode cX18_pass 165 = .ok (.iadd, 1) := by decide +kernel
theorem dX18_pass_166 : decode cX18_pass 166 = .ok (.putfield 27, 3) := by decide +kernel
theorem dX18_pass_169 : decode cX18_pass 169 = .ok (.aload_n 0, 1) := by decide +kernel
theorem dX18_pass_170 : decode cX18_pass 170 = .ok (.getfield 27, 3) := by decide +kernel
theorem dX18_pass_173 : decode cX18_pass 173 = .ok (.ifCond .ge 8, 3) := by decide +kernel
theorem dX18_pass_176 : decode cX18_pass 176 = .ok (.aload_n 0, 1) := by decide +kernel
theorem dX18_pass_177 : decode cX18_pass 177 = .ok (.iconst 0, 1) := by decide +kernel
theorem dX18_pass_178 : decode cX18_pass 178 = .ok (.putfield 27, 3) := by decide +kernel
theorem dX18_pass_181 : decode cX18_pass 181 = .ok (.aload_n 0, 1) := by decide +kernel
theorem dX18_pass_182 : decode cX18_pass 182 = .ok (.getfield 27, 3) := by decide +kernel
theorem dX18_pass_185 : decode cX18_pass 185 = .ok (.bipush 40, 2) := by decide +kernel
theorem dX18_pass_187 : decode cX18_pass 187 = .ok (.if_icmp .le 9, 3) := by decide +kernel
theorem dX18_pass_190 : decode cX18_pass 190 = .ok (.aload_n 0, 1) := by decide +kernel
theorem dX18_pass_191 : decode cX18_pass 191 = .ok (.bipush 40, 2) := by decide +kernel
theorem dX18_pass_193 : decode cX18_pass 193 = .ok (.putfield 27, 3) := by decide +kernel
theorem dX18_pass_196 : decode cX18_pass 196 = .ok (.aload_n 0, 1) := by decide +kernel
theorem dX18_pass_197 : decode cX18_pass 197 = .ok (.dup, 1) := by decide +kernel
theorem dX18_pass_198 : decode cX18_pass 198 = .ok (.getfield 73, 3) := by decide +kernel
theorem dX18_pass_201 : decode cX18_pass 201 = .ok (.iload_n 2, 1) := by decide +kernel
theorem dX18_pass_202 : decode cX18_pass 202 = .ok (.iload_n 3, 1) := by decide +kernel
theorem dX18_pass_203 : decode cX18_pass 203 = .ok (.if_icmp .ge 7, 3) := by decide +kernel
theorem dX18_pass_206 : decode cX18_pass 206 = .ok (.iload_n 2, 1) := by decide +kernel
theorem dX18_pass_207 : decode cX18_pass 207 = .ok (.goto 4, 3) := by decide +kernel
theorem dX18_pass_210 : decode cX18_pass 210 = .ok (.iload_n 3, 1) := by decide +kernel
theorem dX18_pass_211 : decode cX18_pass 211 = .ok (.iadd, 1) := by decide +kernel
theorem dX18_pass_212 : decode cX18_pass 212 = .ok (.putfield 73, 3) := by decide +kernel
theorem dX18_pass_215 : decode cX18_pass 215 = .ok (.aload_n 0, 1) := by decide +kernel
theorem dX18_pass_216 : decode cX18_pass 216 = .ok (.getfield 73, 3) := by decide +kernel
theorem dX18_pass_219 : decode cX18_pass 219 = .ok (.bipush 30, 2) := by decide +kernel
theorem dX18_pass_221 : decode cX18_pass 221 = .ok (.if_icmp .le 9, 3) := by decide +kernel
theorem dX18_pass_224 : decode cX18_pass 224 = .ok (.aload_n 0, 1) := by decide +kernel
theorem dX18_pass_225 : decode cX18_pass 225 = .ok (.bipush 30, 2) := by decide +kernel
theorem dX18_pass_227 : decode cX18_pass 227 = .ok (.putfield 73, 3) := by decide +kernel
theorem dX18_pass_230 : decode cX18_pass 230 = .ok (.aload_n 0, 1) := by decide +kernel
theorem dX18_pass_231 : decode cX18_pass 231 = .ok (.getfield 73, 3) := by decide +kernel
theorem dX18_pass_234 : decode cX18_pass 234 = .ok (.bipush 12, 2) := by decide +kernel
theorem dX18_pass_236 : decode cX18_pass 236 = .ok (.if_icmp .lt 7, 3) := by decide +kernel
theorem dX18_pass_239 : decode cX18_pass 239 = .ok (.iconst 1, 1) := by decide +kernel
theorem dX18_pass_240 : decode cX18_pass 240 = .ok (.goto 4, 3) := by decide +kernel
theorem dX18_pass_243 : decode cX18_pass 243 = .ok (.iconst 0, 1) := by decide +kernel
theorem dX18_pass_244 : decode cX18_pass 244 = .ok (.istore 4, 2) := by decide +kernel
theorem dX18_pass_246 : decode cX18_pass 246 = .ok (.iload 4, 2) := by decide +kernel
theorem dX18_pass_248 : decode cX18_pass 248 = .ok (.ifCond .eq 95, 3) := by decide +kernel
theorem dX18_pass_251 : decode cX18_pass 251 = .ok (.aload_n 0, 1) := by decide +kernel
theorem dX18_pass_252 : decode cX18_pass 252 = .ok (.getfield 17, 3) := by decide +kernel
theorem dX18_pass_255 : decode cX18_pass 255 = .ok (.astore 5, 2) := by decide +kernel
theorem dX18_pass_257 : decode cX18_pass 257 = .ok (.aload 5, 2) := by decide +kernel
theorem dX18_pass_259 : decode cX18_pass 259 = .ok (.arraylength, 1) := by decide +kernel
theorem dX18_pass_260 : decode cX18_pass 260 = .ok (.istore 6, 2) := by decide +kernel
theorem dX18_pass_262 : decode cX18_pass 262 = .ok (.iconst 0, 1) := by decide +kernel
theorem dX18_pass_263 : decode cX18_pass 263 = .ok (.istore 7, 2) := by decide +kernel
theorem dX18_pass_265 : decode cX18_pass 265 = .ok (.iload 7, 2) := by decide +kernel
theorem dX18_pass_267 : decode cX18_pass 267 = .ok (.iload 6, 2) := by decide +kernel
theorem dX18_pass_269 : decode cX18_pass 269 = .ok (.if_icmp .ge 43, 3) := by decide +kernel
theorem dX18_pass_272 : decode cX18_pass 272 = .ok (.aload 5, 2) := by decide +kernel
theorem dX18_pass_274 : decode cX18_pass 274 = .ok (.iload 7, 2) := by decide +kernel
theorem dX18_pass_276 : decode cX18_pass 276 = .ok (.aaload, 1) := by decide +kernel
theorem dX18_pass_277 : decode cX18_pass 277 = .ok (.astore 8, 2) := by decide +kernel
theorem dX18_pass_279 : decode cX18_pass 279 = .ok (.aload 8, 2) := by decide +kernel
theorem dX18_pass_281 : decode cX18_pass 281 = .ok (.getfield 66, 3) := by decide +kernel
theorem dX18_pass_284 : decode cX18_pass 284 = .ok (.iconst 1, 1) := by decide +kernel
theorem dX18_pass_285 : decode cX18_pass 285 = .ok (.if_icmp .ne 21, 3) := by decide +kernel
theorem dX18_pass_288 : decode cX18_pass 288 = .ok (.aload 8, 2) := by decide +kernel
theorem dX18_pass_290 : decode cX18_pass 290 = .ok (.getfield 63, 3) := by decide +kernel
theorem dX18_pass_293 : decode cX18_pass 293 = .ok (.aload_n 0, 1) := by decide +kernel
theorem dX18_pass_294 : decode cX18_pass 294 = .ok (.getfield 73, 3) := by decide +kernel
theorem dX18_pass_297 : decode cX18_pass 297 = .ok (.if_icmp .ge 9, 3) := by decide +kernel
theorem dX18_pass_300 : decode cX18_pass 300 = .ok (.aload 8, 2) := by decide +kernel
theorem dX18_pass_302 : decode cX18_pass 302 = .ok (.iconst 3, 1) := by decide +kernel
theorem dX18_pass_303 : decode cX18_pass 303 = .ok (.putfield 66, 3) := by decide +kernel
theorem dX18_pass_306 : decode cX18_pass 306 = .ok (.iinc 7 1, 3) := by decide +kernel
theorem dX18_pass_309 : decode cX18_pass 309 = .ok (.goto (-44), 3) := by decide +kernel
theorem dX18_pass_312 : decode cX18_pass 312 = .ok (.aload_n 0, 1) := by decide +kernel
theorem dX18_pass_313 : decode cX18_pass 313 = .ok (.aload_n 0, 1) := by decide +kernel
theorem dX18_pass_314 : decode cX18_pass 314 = .ok (.getfield 70, 3) := by decide +kernel
theorem dX18_pass_317 : decode cX18_pass 317 = .ok (.iconst 2, 1) := by decide +kernel
theorem dX18_pass_318 : decode cX18_pass 318 = .ok (.idiv, 1) := by decide +kernel
theorem dX18_pass_319 : decode cX18_pass 319 = .ok (.putfield 70, 3) := by decide +kernel
theorem dX18_pass_322 : decode cX18_pass 322 = .ok (.aload_n 0, 1) := by decide +kernel
theorem dX18_pass_323 : decode cX18_pass 323 = .ok (.dup, 1) := by decide +kernel
theorem dX18_pass_324 : decode cX18_pass 324 = .ok (.getfield 73, 3) := by decide +kernel
theorem dX18_pass_327 : decode cX18_pass 327 = .ok (.bipush 12, 2) := by decide +kernel
theorem dX18_pass_329 : decode cX18_pass 329 = .ok (.isub, 1) := by decide +kernel
theorem dX18_pass_330 : decode cX18_pass 330 = .ok (.putfield 73, 3) := by decide +kernel
theorem dX18_pass_333 : decode cX18_pass 333 = .ok (.aload_n 0, 1) := by decide +kernel
theorem dX18_pass_334 : decode cX18_pass 334 = .ok (.dup, 1) := by decide +kernel
theorem dX18_pass_335 : decode cX18_pass 335 = .ok (.getfield 79, 3) := by decide +kernel
theorem dX18_pass_338 : decode cX18_pass 338 = .ok (.iconst 1, 1) := by decide +kernel
theorem dX18_pass_339 : decode cX18_pass 339 = .ok (.iadd, 1) := by decide +kernel
theorem dX18_pass_340 : decode cX18_pass 340 = .ok (.putfield 79, 3) := by decide +kernel
theorem dX18_pass_343 : decode cX18_pass 343 = .ok (.aload_n 0, 1) := by decide +kernel
theorem dX18_pass_344 : decode cX18_pass 344 = .ok (.dup, 1) := by decide +kernel
theorem dX18_pass_345 : decode cX18_pass 345 = .ok (.getfield 67, 3) := by decide +kernel
theorem dX18_pass_348 : decode cX18_pass 348 = .ok (.iconst 1, 1) := by decide +kernel
theorem dX18_pass_349 : decode cX18_pass 349 = .ok (.iadd, 1) := by decide +kernel
theorem dX18_pass_350 : decode cX18_pass 350 = .ok (.putfield 67, 3) := by decide +kernel
theorem dX18_pass_353 : decode cX18_pass 353 = .ok (.aload_n 0, 1) := by decide +kernel
theorem dX18_pass_354 : decode cX18_pass 354 = .ok (.getfield 9, 3) := by decide +kernel
theorem dX18_pass_357 : decode cX18_pass 357 = .ok (.astore 5, 2) := by decide +kernel
theorem dX18_pass_359 : decode cX18_pass 359 = .ok (.aload 5, 2) := by decide +kernel
theorem dX18_pass_361 : decode cX18_pass 361 = .ok (.arraylength, 1) := by decide +kernel
theorem dX18_pass_362 : decode cX18_pass 362 = .ok (.istore 6, 2) := by decide +kernel
theorem dX18_pass_364 : decode cX18_pass 364 = .ok (.iconst 0, 1) := by decide +kernel
theorem dX18_pass_365 : decode cX18_pass 365 = .ok (.istore 7, 2) := by decide +kernel
theorem dX18_pass_367 : decode cX18_pass 367 = .ok (.iload 7, 2) := by decide +kernel
theorem dX18_pass_369 : decode cX18_pass 369 = .ok (.iload 6, 2) := by decide +kernel
theorem dX18_pass_371 : decode cX18_pass 371 = .ok (.if_icmp .ge 49, 3) := by decide +kernel
theorem dX18_pass_374 : decode cX18_pass 374 = .ok (.aload 5, 2) := by decide +kernel
theorem dX18_pass_376 : decode cX18_pass 376 = .ok (.iload 7, 2) := by decide +kernel
theorem dX18_pass_378 : decode cX18_pass 378 = .ok (.aaload, 1) := by decide +kernel
theorem dX18_pass_379 : decode cX18_pass 379 = .ok (.astore 8, 2) := by decide +kernel
theorem dX18_pass_381 : decode cX18_pass 381 = .ok (.aload 8, 2) := by decide +kernel
theorem dX18_pass_383 : decode cX18_pass 383 = .ok (.getfield 52, 3) := by decide +kernel
theorem dX18_pass_386 : decode cX18_pass 386 = .ok (.iconst 1, 1) := by decide +kernel
theorem dX18_pass_387 : decode cX18_pass 387 = .ok (.if_icmp .ne 27, 3) := by decide +kernel
theorem dX18_pass_390 : decode cX18_pass 390 = .ok (.aload 8, 2) := by decide +kernel
theorem dX18_pass_392 : decode cX18_pass 392 = .ok (.getfield 46, 3) := by decide +kernel
theorem dX18_pass_395 : decode cX18_pass 395 = .ok (.aload 8, 2) := by decide +kernel
theorem dX18_pass_397 : decode cX18_pass 397 = .ok (.getfield 49, 3) := by decide +kernel
theorem dX18_pass_400 : decode cX18_pass 400 = .ok (.iadd, 1) := by decide +kernel
theorem dX18_pass_401 : decode cX18_pass 401 = .ok (.aload_n 0, 1) := by decide +kernel
theorem dX18_pass_402 : decode cX18_pass 402 = .ok (.getfield 67, 3) := by decide +kernel
theorem dX18_pass_405 : decode cX18_pass 405 = .ok (.if_icmp .gt 9, 3) := by decide +kernel
theorem dX18_pass_408 : decode cX18_pass 408 = .ok (.aload 8, 2) := by decide +kernel
theorem dX18_pass_410 : decode cX18_pass 410 = .ok (.iconst 0, 1) := by decide +kernel
theorem dX18_pass_411 : decode cX18_pass 411 = .ok (.putfield 52, 3) := by decide +kernel
theorem dX18_pass_414 : decode cX18_pass 414 = .ok (.iinc 7 1, 3) := by decide +kernel
theorem dX18_pass_417 : decode cX18_pass 417 = .ok (.goto (-50), 3) := by decide +kernel
theorem dX18_pass_420 : decode cX18_pass 420 = .ok (.aload_n 0, 1) := by decide +kernel
theorem dX18_pass_421 : decode cX18_pass 421 = .ok (.getfield 17, 3) := by decide +kernel
theorem dX18_pass_424 : decode cX18_pass 424 = .ok (.astore 5, 2) := by decide +kernel
theorem dX18_pass_426 : decode cX18_pass 426 = .ok (.aload 5, 2) := by decide +kernel
theorem dX18_pass_428 : decode cX18_pass 428 = .ok (.arraylength, 1) := by decide +kernel
theorem dX18_pass_429 : decode cX18_pass 429 = .ok (.istore 6, 2) := by decide +kernel
theorem dX18_pass_431 : decode cX18_pass 431 = .ok (.iconst 0, 1) := by decide +kernel
theorem dX18_pass_432 : decode cX18_pass 432 = .ok (.istore 7, 2) := by decide +kernel
theorem dX18_pass_434 : decode cX18_pass 434 = .ok (.iload 7, 2) := by decide +kernel
theorem dX18_pass_436 : decode cX18_pass 436 = .ok (.iload 6, 2) := by decide +kernel
theorem dX18_pass_438 : decode cX18_pass 438 = .ok (.if_icmp .ge 46, 3) := by decide +kernel
theorem dX18_pass_441 : decode cX18_pass 441 = .ok (.aload 5, 2) := by decide +kernel
theorem dX18_pass_443 : decode cX18_pass 443 = .ok (.iload 7, 2) := by decide +kernel
theorem dX18_pass_445 : decode cX18_pass 445 = .ok (.aaload, 1) := by decide +kernel
theorem dX18_pass_446 : decode cX18_pass 446 = .ok (.astore 8, 2) := by decide +kernel
theorem dX18_pass_448 : decode cX18_pass 448 = .ok (.aload 8, 2) := by decide +kernel
theorem dX18_pass_450 : decode cX18_pass 450 = .ok (.getfield 66, 3) := by decide +kernel
theorem dX18_pass_453 : decode cX18_pass 453 = .ok (.iconst 1, 1) := by decide +kernel
theorem dX18_pass_454 : decode cX18_pass 454 = .ok (.if_icmp .ne 24, 3) := by decide +kernel
theorem dX18_pass_457 : decode cX18_pass 457 = .ok (.aload 8, 2) := by decide +kernel
theorem dX18_pass_459 : decode cX18_pass 459 = .ok (.getfield 56, 3) := by decide +kernel
theorem dX18_pass_462 : decode cX18_pass 462 = .ok (.bipush 8, 2) := by decide +kernel
theorem dX18_pass_464 : decode cX18_pass 464 = .ok (.iadd, 1) := by decide +kernel
theorem dX18_pass_465 : decode cX18_pass 465 = .ok (.aload_n 0, 1) := by decide +kernel
theorem dX18_pass_466 : decode cX18_pass 466 = .ok (.getfield 67, 3) := by decide +kernel
theorem dX18_pass_469 : decode cX18_pass 469 = .ok (.if_icmp .gt 9, 3) := by decide +kernel
theorem dX18_pass_472 : decode cX18_pass 472 = .ok (.aload 8, 2) := by decide +kernel
theorem dX18_pass_474 : decode cX18_pass 474 = .ok (.iconst 0, 1) := by decide +kernel
theorem dX18_pass_475 : decode cX18_pass 475 = .ok (.putfield 66, 3) := by decide +kernel
theorem dX18_pass_478 : decode cX18_pass 478 = .ok (.iinc 7 1, 3) := by decide +kernel
theorem dX18_pass_481 : decode cX18_pass 481 = .ok (.goto (-47), 3) := by decide +kernel
theorem dX18_pass_484 : decode cX18_pass 484 = .ok (.aload_n 0, 1) := by decide +kernel
theorem dX18_pass_485 : decode cX18_pass 485 = .ok (.invokevirtual 90, 3) := by decide +kernel
theorem dX18_pass_488 : decode cX18_pass 488 = .ok (.iload 4, 2) := by decide +kernel
theorem dX18_pass_490 : decode cX18_pass 490 = .ok (.ifCond .eq 7, 3) := by decide +kernel
theorem dX18_pass_493 : decode cX18_pass 493 = .ok (.iconst 1, 1) := by decide +kernel
theorem dX18_pass_494 : decode cX18_pass 494 = .ok (.goto 4, 3) := by decide +kernel
theorem dX18_pass_497 : decode cX18_pass 497 = .ok (.iconst 0, 1) := by decide +kernel
theorem dX18_pass_498 : decode cX18_pass 498 = .ok (.ireturn, 1) := by decide +kernel
theorem dX18_pass__0 : decode cX18_pass_ 0 = .ok (.iconst 0, 1) := by decide +kernel
theorem dX18_pass__1 : decode cX18_pass_ 1 = .ok (.istore_n 2, 1) := by decide +kernel
theorem dX18_pass__2 : decode cX18_pass_ 2 = .ok (.iconst 0, 1) := by decide +kernel
theorem dX18_pass__3 : decode cX18_pass_ 3 = .ok (.istore_n 3, 1) := by decide +kernel
theorem dX18_pass__4 : decode cX18_pass_ 4 = .ok (.iload_n 3, 1) := by decide +kernel
theorem dX18_pass__5 : decode cX18_pass_ 5 = .ok (.iload_n 1, 1) := by decide +kernel
theorem dX18_pass__6 : decode cX18_pass_ 6 = .ok (.if_icmp .ge 16, 3) := by decide +kernel
theorem dX18_pass__9 : decode cX18_pass_ 9 = .ok (.iload_n 2, 1) := by decide +kernel
theorem dX18_pass__10 : decode cX18_pass_ 10 = .ok (.aload_n 0, 1) := by decide +kernel
theorem dX18_pass__11 : decode cX18_pass_ 11 = .ok (.invokevirtual 93, 3) := by decide +kernel
theorem dX18_pass__14 : decode cX18_pass_ 14 = .ok (.iadd, 1) := by decide +kernel
theorem dX18_pass__15 : decode cX18_pass_ 15 = .ok (.istore_n 2, 1) := by decide +kernel
theorem dX18_pass__16 : decode cX18_pass_ 16 = .ok (.iinc 3 1, 3) := by decide +kernel
theorem dX18_pass__19 : decode cX18_pass_ 19 = .ok (.goto (-15), 3) := by decide +kernel
theorem dX18_pass__22 : decode cX18_pass_ 22 = .ok (.iload_n 2, 1) := by decide +kernel
theorem dX18_pass__23 : decode cX18_pass_ 23 = .ok (.ireturn, 1) := by decide +kernel
theorem dX18_guestsAt_0 : decode cX18_guestsAt 0 = .ok (.iconst 0, 1) := by decide +kernel
theorem dX18_guestsAt_1 : decode cX18_guestsAt 1 = .ok (.istore_n 2, 1) := by decide +kernel
theorem dX18_guestsAt_2 : decode cX18_guestsAt 2 = .ok (.aload_n 0, 1) := by decide +kernel
theorem dX18_guestsAt_3 : decode cX18_guestsAt 3 = .ok (.getfield 17, 3) := by decide +kernel
theorem dX18_guestsAt_6 : decode cX18_guestsAt 6 = .ok (.astore_n 3, 1) := by decide +kernel
theorem dX18_guestsAt_7 : decode cX18_guestsAt 7 = .ok (.aload_n 3, 1) := by decide +kernel
theorem dX18_guestsAt_8 : decode cX18_guestsAt 8 = .ok (.arraylength, 1) := by decide +kernel
theorem dX18_guestsAt_9 : decode cX18_guestsAt 9 = .ok (.istore 4, 2) := by decide +kernel
theorem dX18_guestsAt_11 : decode cX18_guestsAt 11 = .ok (.iconst 0, 1) := by decide +kernel
theorem dX18_guestsAt_12 : decode cX18_guestsAt 12 = .ok (.istore 5, 2) := by decide +kernel
theorem dX18_guestsAt_14 : decode cX18_guestsAt 14 = .ok (.iload 5, 2) := by decide +kernel
theorem dX18_guestsAt_16 : decode cX18_guestsAt 16 = .ok (.iload 4, 2) := by decide +kernel
theorem dX18_guestsAt_18 : decode cX18_guestsAt 18 = .ok (.if_icmp .ge 32, 3) := by decide +kernel
theorem dX18_guestsAt_21 : decode cX18_guestsAt 21 = .ok (.aload_n 3, 1) := by decide +kernel
theorem dX18_guestsAt_22 : decode cX18_guestsAt 22 = .ok (.iload 5, 2) := by decide +kernel
theorem dX18_guestsAt_24 : decode cX18_guestsAt 24 = .ok (.aaload, 1) := by decide +kernel
theorem dX18_guestsAt_25 : decode cX18_guestsAt 25 = .ok (.astore 6, 2) := by decide +kernel
theorem dX18_guestsAt_27 : decode cX18_guestsAt 27 = .ok (.iload_n 2, 1) := by decide +kernel
theorem dX18_guestsAt_28 : decode cX18_guestsAt 28 = .ok (.aload 6, 2) := by decide +kernel
theorem dX18_guestsAt_30 : decode cX18_guestsAt 30 = .ok (.getfield 66, 3) := by decide +kernel
theorem dX18_guestsAt_33 : decode cX18_guestsAt 33 = .ok (.iload_n 1, 1) := by decide +kernel
theorem dX18_guestsAt_34 : decode cX18_guestsAt 34 = .ok (.if_icmp .ne 7, 3) := by decide +kernel
theorem dX18_guestsAt_37 : decode cX18_guestsAt 37 = .ok (.iconst 1, 1) := by decide +kernel
theorem dX18_guestsAt_38 : decode cX18_guestsAt 38 = .ok (.goto 4, 3) := by decide +kernel
theorem dX18_guestsAt_41 : decode cX18_guestsAt 41 = .ok (.iconst 0, 1) := by decide +kernel
theorem dX18_guestsAt_42 : decode cX18_guestsAt 42 = .ok (.iadd, 1) := by decide +kernel
theorem dX18_guestsAt_43 : decode cX18_guestsAt 43 = .ok (.istore_n 2, 1) := by decide +kernel
theorem dX18_guestsAt_44 : decode cX18_guestsAt 44 = .ok (.iinc 5 1, 3) := by decide +kernel
theorem dX18_guestsAt_47 : decode cX18_guestsAt 47 = .ok (.goto (-33), 3) := by decide +kernel
theorem dX18_guestsAt_50 : decode cX18_guestsAt 50 = .ok (.iload_n 2, 1) := by decide +kernel
theorem dX18_guestsAt_51 : decode cX18_guestsAt 51 = .ok (.ireturn, 1) := by decide +kernel
theorem dX18_isSame_0 : decode cX18_isSame 0 = .ok (.iconst 0, 1) := by decide +kernel
theorem dX18_isSame_1 : decode cX18_isSame 1 = .ok (.istore_n 2, 1) := by decide +kernel
theorem dX18_isSame_2 : decode cX18_isSame 2 = .ok (.iconst 0, 1) := by decide +kernel
theorem dX18_isSame_3 : decode cX18_isSame 3 = .ok (.istore_n 3, 1) := by decide +kernel
theorem dX18_isSame_4 : decode cX18_isSame 4 = .ok (.iconst 0, 1) := by decide +kernel
theorem dX18_isSame_5 : decode cX18_isSame 5 = .ok (.istore 4, 2) := by decide +kernel
theorem dX18_isSame_7 : decode cX18_isSame 7 = .ok (.iload 4, 2) := by decide +kernel
theorem dX18_isSame_9 : decode cX18_isSame 9 = .ok (.aload_n 0, 1) := by decide +kernel
theorem dX18_isSame_10 : decode cX18_isSame 10 = .ok (.getfield 9, 3) := by decide +kernel
theorem dX18_isSame_13 : decode cX18_isSame 13 = .ok (.arraylength, 1) := by decide +kernel
theorem dX18_isSame_14 : decode cX18_isSame 14 = .ok (.if_icmp .ge 132, 3) := by decide +kernel
theorem dX18_isSame_17 : decode cX18_isSame 17 = .ok (.aload_n 0, 1) := by decide +kernel
theorem dX18_isSame_18 : decode cX18_isSame 18 = .ok (.getfield 9, 3) := by decide +kernel
theorem dX18_isSame_21 : decode cX18_isSame 21 = .ok (.iload 4, 2) := by decide +kernel
theorem dX18_isSame_23 : decode cX18_isSame 23 = .ok (.aaload, 1) := by decide +kernel
theorem dX18_isSame_24 : decode cX18_isSame 24 = .ok (.astore 5, 2) := by decide +kernel
theorem dX18_isSame_26 : decode cX18_isSame 26 = .ok (.aload_n 1, 1) := by decide +kernel
theorem dX18_isSame_27 : decode cX18_isSame 27 = .ok (.iload 4, 2) := by decide +kernel
theorem dX18_isSame_29 : decode cX18_isSame 29 = .ok (.invokevirtual 97, 3) := by decide +kernel
theorem dX18_isSame_32 : decode cX18_isSame 32 = .ok (.aload 5, 2) := by decide +kernel
theorem dX18_isSame_34 : decode cX18_isSame 34 = .ok (.getfield 39, 3) := by decide +kernel
theorem dX18_isSame_37 : decode cX18_isSame 37 = .ok (.if_icmp .ne 63, 3) := by decide +kernel
theorem dX18_isSame_40 : decode cX18_isSame 40 = .ok (.aload_n 1, 1) := by decide +kernel
theorem dX18_isSame_41 : decode cX18_isSame 41 = .ok (.iload 4, 2) := by decide +kernel
theorem dX18_isSame_43 : decode cX18_isSame 43 = .ok (.invokevirtual 102, 3) := by decide +kernel
theorem dX18_isSame_46 : decode cX18_isSame 46 = .ok (.aload 5, 2) := by decide +kernel
theorem dX18_isSame_48 : decode cX18_isSame 48 = .ok (.getfield 43, 3) := by decide +kernel
theorem dX18_isSame_51 : decode cX18_isSame 51 = .ok (.if_icmp .ne 49, 3) := by decide +kernel
theorem dX18_isSame_54 : decode cX18_isSame 54 = .ok (.aload_n 1, 1) := by decide +kernel
theorem dX18_isSame_55 : decode cX18_isSame 55 = .ok (.iload 4, 2) := by decide +kernel
theorem dX18_isSame_57 : decode cX18_isSame 57 = .ok (.invokevirtual 106, 3) := by decide +kernel
theorem dX18_isSame_60 : decode cX18_isSame 60 = .ok (.aload 5, 2) := by decide +kernel
theorem dX18_isSame_62 : decode cX18_isSame 62 = .ok (.getfield 52, 3) := by decide +kernel
theorem dX18_isSame_65 : decode cX18_isSame 65 = .ok (.iconst 1, 1) := by decide +kernel
theorem dX18_isSame_66 : decode cX18_isSame 66 = .ok (.if_icmp .ne 7, 3) := by decide +kernel
theorem dX18_isSame_69 : decode cX18_isSame 69 = .ok (.iconst 1, 1) := by decide +kernel
theorem dX18_isSame_70 : decode cX18_isSame 70 = .ok (.goto 4, 3) := by decide +kernel
theorem dX18_isSame_73 : decode cX18_isSame 73 = .ok (.iconst 0, 1) := by decide +kernel
theorem dX18_isSame_74 : decode cX18_isSame 74 = .ok (.if_icmp .ne 26, 3) := by decide +kernel
theorem dX18_isSame_77 : decode cX18_isSame 77 = .ok (.aload_n 1, 1) := by decide +kernel
theorem dX18_isSame_78 : decode cX18_isSame 78 = .ok (.iload 4, 2) := by decide +kernel
theorem dX18_isSame_80 : decode cX18_isSame 80 = .ok (.invokevirtual 109, 3) := by decide +kernel
theorem dX18_isSame_83 : decode cX18_isSame 83 = .ok (.aload 5, 2) := by decide +kernel
theorem dX18_isSame_85 : decode cX18_isSame 85 = .ok (.getfield 52, 3) := by decide +kernel
theorem dX18_isSame_88 : decode cX18_isSame 88 = .ok (.iconst 2, 1) := by decide +kernel
theorem dX18_isSame_89 : decode cX18_isSame 89 = .ok (.if_icmp .ne 7, 3) := by decide +kernel
theorem dX18_isSame_92 : decode cX18_isSame 92 = .ok (.iconst 1, 1) := by decide +kernel
theorem dX18_isSame_93 : decode cX18_isSame 93 = .ok (.goto 4, 3) := by decide +kernel
theorem dX18_isSame_96 : decode cX18_isSame 96 = .ok (.iconst 0, 1) := by decide +kernel
theorem dX18_isSame_97 : decode cX18_isSame 97 = .ok (.if_icmp .eq 5, 3) := by decide +kernel
theorem dX18_isSame_100 : decode cX18_isSame 100 = .ok (.iconst 0, 1) := by decide +kernel
theorem dX18_isSame_101 : decode cX18_isSame 101 = .ok (.ireturn, 1) := by decide +kernel
theorem dX18_isSame_102 : decode cX18_isSame 102 = .ok (.iload_n 2, 1) := by decide +kernel
theorem dX18_isSame_103 : decode cX18_isSame 103 = .ok (.aload 5, 2) := by decide +kernel
theorem dX18_isSame_105 : decode cX18_isSame 105 = .ok (.getfield 52, 3) := by decide +kernel
theorem dX18_isSame_108 : decode cX18_isSame 108 = .ok (.iconst 1, 1) := by decide +kernel
theorem dX18_isSame_109 : decode cX18_isSame 109 = .ok (.if_icmp .ne 11, 3) := by decide +kernel
theorem dX18_isSame_112 : decode cX18_isSame 112 = .ok (.aload 5, 2) := by decide +kernel
theorem dX18_isSame_114 : decode cX18_isSame 114 = .ok (.getfield 43, 3) := by decide +kernel
theorem dX18_isSame_117 : decode cX18_isSame 117 = .ok (.goto 4, 3) := by decide +kernel
theorem dX18_isSame_120 : decode cX18_isSame 120 = .ok (.iconst 0, 1) := by decide +kernel
theorem dX18_isSame_121 : decode cX18_isSame 121 = .ok (.iadd, 1) := by decide +kernel
theorem dX18_isSame_122 : decode cX18_isSame 122 = .ok (.istore_n 2, 1) := by decide +kernel
theorem dX18_isSame_123 : decode cX18_isSame 123 = .ok (.iload_n 3, 1) := by decide +kernel
theorem dX18_isSame_124 : decode cX18_isSame 124 = .ok (.aload 5, 2) := by decide +kernel
theorem dX18_isSame_126 : decode cX18_isSame 126 = .ok (.getfield 52, 3) := by decide +kernel
theorem dX18_isSame_129 : decode cX18_isSame 129 = .ok (.iconst 1, 1) := by decide +kernel
theorem dX18_isSame_130 : decode cX18_isSame 130 = .ok (.if_icmp .ne 7, 3) := by decide +kernel
theorem dX18_isSame_133 : decode cX18_isSame 133 = .ok (.iconst 1, 1) := by decide +kernel
theorem dX18_isSame_134 : decode cX18_isSame 134 = .ok (.goto 4, 3) := by decide +kernel
theorem dX18_isSame_137 : decode cX18_isSame 137 = .ok (.iconst 0, 1) := by decide +kernel
theorem dX18_isSame_138 : decode cX18_isSame 138 = .ok (.iadd, 1) := by decide +kernel
theorem dX18_isSame_139 : decode cX18_isSame 139 = .ok (.istore_n 3, 1) := by decide +kernel
theorem dX18_isSame_140 : decode cX18_isSame 140 = .ok (.iinc 4 1, 3) := by decide +kernel
theorem dX18_isSame_143 : decode cX18_isSame 143 = .ok (.goto (-136), 3) := by decide +kernel
theorem dX18_isSame_146 : decode cX18_isSame 146 = .ok (.iconst 0, 1) := by decide +kernel
theorem dX18_isSame_147 : decode cX18_isSame 147 = .ok (.istore 4, 2) := by decide +kernel
theorem dX18_isSame_149 : decode cX18_isSame 149 = .ok (.iload 4, 2) := by decide +kernel
theorem dX18_isSame_151 : decode cX18_isSame 151 = .ok (.aload_n 0, 1) := by decide +kernel
theorem dX18_isSame_152 : decode cX18_isSame 152 = .ok (.getfield 17, 3) := by decide +kernel
theorem dX18_isSame_155 : decode cX18_isSame 155 = .ok (.arraylength, 1) := by decide +kernel
theorem dX18_isSame_156 : decode cX18_isSame 156 = .ok (.if_icmp .ge 108, 3) := by decide +kernel
theorem dX18_isSame_159 : decode cX18_isSame 159 = .ok (.aload_n 0, 1) := by decide +kernel
theorem dX18_isSame_160 : decode cX18_isSame 160 = .ok (.getfield 17, 3) := by decide +kernel
theorem dX18_isSame_163 : decode cX18_isSame 163 = .ok (.iload 4, 2) := by decide +kernel
theorem dX18_isSame_165 : decode cX18_isSame 165 = .ok (.aaload, 1) := by decide +kernel
theorem dX18_isSame_166 : decode cX18_isSame 166 = .ok (.astore 5, 2) := by decide +kernel
theorem dX18_isSame_168 : decode cX18_isSame 168 = .ok (.aload_n 1, 1) := by decide +kernel
theorem dX18_isSame_169 : decode cX18_isSame 169 = .ok (.iload 4, 2) := by decide +kernel
theorem dX18_isSame_171 : decode cX18_isSame 171 = .ok (.invokevirtual 112, 3) := by decide +kernel
theorem dX18_isSame_174 : decode cX18_isSame 174 = .ok (.aload 5, 2) := by decide +kernel
theorem dX18_isSame_176 : decode cX18_isSame 176 = .ok (.getfield 66, 3) := by decide +kernel
theorem dX18_isSame_179 : decode cX18_isSame 179 = .ok (.iconst 1, 1) := by decide +kernel
theorem dX18_isSame_180 : decode cX18_isSame 180 = .ok (.if_icmp .ne 7, 3) := by decide +kernel
theorem dX18_isSame_183 : decode cX18_isSame 183 = .ok (.iconst 1, 1) := by decide +kernel
theorem dX18_isSame_184 : decode cX18_isSame 184 = .ok (.goto 4, 3) := by decide +kernel
theorem dX18_isSame_187 : decode cX18_isSame 187 = .ok (.iconst 0, 1) := by decide +kernel
theorem dX18_isSame_188 : decode cX18_isSame 188 = .ok (.if_icmp .ne 68, 3) := by decide +kernel
theorem dX18_isSame_191 : decode cX18_isSame 191 = .ok (.aload_n 1, 1) := by decide +kernel
theorem dX18_isSame_192 : decode cX18_isSame 192 = .ok (.iload 4, 2) := by decide +kernel
theorem dX18_isSame_194 : decode cX18_isSame 194 = .ok (.invokevirtual 115, 3) := by decide +kernel
theorem dX18_isSame_197 : decode cX18_isSame 197 = .ok (.aload_n 0, 1) := by decide +kernel
theorem dX18_isSame_198 : decode cX18_isSame 198 = .ok (.aload 5, 2) := by decide +kernel
theorem dX18_isSame_200 : decode cX18_isSame 200 = .ok (.aload_n 0, 1) := by decide +kernel
theorem dX18_isSame_201 : decode cX18_isSame 201 = .ok (.getfield 70, 3) := by decide +kernel
theorem dX18_isSame_204 : decode cX18_isSame 204 = .ok (.invokevirtual 82, 3) := by decide +kernel
theorem dX18_isSame_207 : decode cX18_isSame 207 = .ok (.if_icmp .ne 49, 3) := by decide +kernel
theorem dX18_isSame_210 : decode cX18_isSame 210 = .ok (.aload_n 1, 1) := by decide +kernel
theorem dX18_isSame_211 : decode cX18_isSame 211 = .ok (.iload 4, 2) := by decide +kernel
theorem dX18_isSame_213 : decode cX18_isSame 213 = .ok (.invokevirtual 118, 3) := by decide +kernel
theorem dX18_isSame_216 : decode cX18_isSame 216 = .ok (.aload 5, 2) := by decide +kernel
theorem dX18_isSame_218 : decode cX18_isSame 218 = .ok (.getfield 66, 3) := by decide +kernel
theorem dX18_isSame_221 : decode cX18_isSame 221 = .ok (.iconst 2, 1) := by decide +kernel
theorem dX18_isSame_222 : decode cX18_isSame 222 = .ok (.if_icmp .ne 7, 3) := by decide +kernel
theorem dX18_isSame_225 : decode cX18_isSame 225 = .ok (.iconst 1, 1) := by decide +kernel
theorem dX18_isSame_226 : decode cX18_isSame 226 = .ok (.goto 4, 3) := by decide +kernel
theorem dX18_isSame_229 : decode cX18_isSame 229 = .ok (.iconst 0, 1) := by decide +kernel
theorem dX18_isSame_230 : decode cX18_isSame 230 = .ok (.if_icmp .ne 26, 3) := by decide +kernel
theorem dX18_isSame_233 : decode cX18_isSame 233 = .ok (.aload_n 1, 1) := by decide +kernel
theorem dX18_isSame_234 : decode cX18_isSame 234 = .ok (.iload 4, 2) := by decide +kernel
theorem dX18_isSame_236 : decode cX18_isSame 236 = .ok (.invokevirtual 121, 3) := by decide +kernel
theorem dX18_isSame_239 : decode cX18_isSame 239 = .ok (.aload 5, 2) := by decide +kernel
theorem dX18_isSame_241 : decode cX18_isSame 241 = .ok (.getfield 66, 3) := by decide +kernel
theorem dX18_isSame_244 : decode cX18_isSame 244 = .ok (.iconst 3, 1) := by decide +kernel
theorem dX18_isSame_245 : decode cX18_isSame 245 = .ok (.if_icmp .ne 7, 3) := by decide +kernel
theorem dX18_isSame_248 : decode cX18_isSame 248 = .ok (.iconst 1, 1) := by decide +kernel
theorem dX18_isSame_249 : decode cX18_isSame 249 = .ok (.goto 4, 3) := by decide +kernel
theorem dX18_isSame_252 : decode cX18_isSame 252 = .ok (.iconst 0, 1) := by decide +kernel
theorem dX18_isSame_253 : decode cX18_isSame 253 = .ok (.if_icmp .eq 5, 3) := by decide +kernel
theorem dX18_isSame_256 : decode cX18_isSame 256 = .ok (.iconst 0, 1) := by decide +kernel
theorem dX18_isSame_257 : decode cX18_isSame 257 = .ok (.ireturn, 1) := by decide +kernel
theorem dX18_isSame_258 : decode cX18_isSame 258 = .ok (.iinc 4 1, 3) := by decide +kernel
theorem dX18_isSame_261 : decode cX18_isSame 261 = .ok (.goto (-112), 3) := by decide +kernel
theorem dX18_isSame_264 : decode cX18_isSame 264 = .ok (.aload_n 1, 1) := by decide +kernel
theorem dX18_isSame_265 : decode cX18_isSame 265 = .ok (.invokevirtual 124, 3) := by decide +kernel
theorem dX18_isSame_268 : decode cX18_isSame 268 = .ok (.aload_n 0, 1) := by decide +kernel
theorem dX18_isSame_269 : decode cX18_isSame 269 = .ok (.getfield 9, 3) := by decide +kernel
theorem dX18_isSame_272 : decode cX18_isSame 272 = .ok (.arraylength, 1) := by decide +kernel
theorem dX18_isSame_273 : decode cX18_isSame 273 = .ok (.if_icmp .ne 164, 3) := by decide +kernel
theorem dX18_isSame_276 : decode cX18_isSame 276 = .ok (.aload_n 1, 1) := by decide +kernel
theorem dX18_isSame_277 : decode cX18_isSame 277 = .ok (.invokevirtual 126, 3) := by decide +kernel
theorem dX18_isSame_280 : decode cX18_isSame 280 = .ok (.aload_n 0, 1) := by decide +kernel
theorem dX18_isSame_281 : decode cX18_isSame 281 = .ok (.getfield 17, 3) := by decide +kernel
theorem dX18_isSame_284 : decode cX18_isSame 284 = .ok (.arraylength, 1) := by decide +kernel
theorem dX18_isSame_285 : decode cX18_isSame 285 = .ok (.if_icmp .ne 152, 3) := by decide +kernel
theorem dX18_isSame_288 : decode cX18_isSame 288 = .ok (.aload_n 1, 1) := by decide +kernel
theorem dX18_isSame_289 : decode cX18_isSame 289 = .ok (.invokevirtual 128, 3) := by decide +kernel
theorem dX18_isSame_292 : decode cX18_isSame 292 = .ok (.aload_n 0, 1) := by decide +kernel
theorem dX18_isSame_293 : decode cX18_isSame 293 = .ok (.getfield 67, 3) := by decide +kernel
theorem dX18_isSame_296 : decode cX18_isSame 296 = .ok (.if_icmp .ne 141, 3) := by decide +kernel
theorem dX18_isSame_299 : decode cX18_isSame 299 = .ok (.aload_n 1, 1) := by decide +kernel
theorem dX18_isSame_300 : decode cX18_isSame 300 = .ok (.invokevirtual 130, 3) := by decide +kernel
theorem dX18_isSame_303 : decode cX18_isSame 303 = .ok (.aload_n 0, 1) := by decide +kernel
theorem dX18_isSame_304 : decode cX18_isSame 304 = .ok (.getfield 27, 3) := by decide +kernel
theorem dX18_isSame_307 : decode cX18_isSame 307 = .ok (.if_icmp .ne 130, 3) := by decide +kernel
theorem dX18_isSame_310 : decode cX18_isSame 310 = .ok (.aload_n 1, 1) := by decide +kernel
theorem dX18_isSame_311 : decode cX18_isSame 311 = .ok (.invokevirtual 132, 3) := by decide +kernel
theorem dX18_isSame_314 : decode cX18_isSame 314 = .ok (.aload_n 0, 1) := by decide +kernel
theorem dX18_isSame_315 : decode cX18_isSame 315 = .ok (.getfield 70, 3) := by decide +kernel
theorem dX18_isSame_318 : decode cX18_isSame 318 = .ok (.if_icmp .ne 119, 3) := by decide +kernel
theorem dX18_isSame_321 : decode cX18_isSame 321 = .ok (.aload_n 1, 1) := by decide +kernel
theorem dX18_isSame_322 : decode cX18_isSame 322 = .ok (.invokevirtual 134, 3) := by decide +kernel
theorem dX18_isSame_325 : decode cX18_isSame 325 = .ok (.aload_n 0, 1) := by decide +kernel
theorem dX18_isSame_326 : decode cX18_isSame 326 = .ok (.getfield 73, 3) := by decide +kernel
theorem dX18_isSame_329 : decode cX18_isSame 329 = .ok (.if_icmp .ne 108, 3) := by decide +kernel
theorem dX18_isSame_332 : decode cX18_isSame 332 = .ok (.aload_n 1, 1) := by decide +kernel
theorem dX18_isSame_333 : decode cX18_isSame 333 = .ok (.invokevirtual 136, 3) := by decide +kernel
theorem dX18_isSame_336 : decode cX18_isSame 336 = .ok (.aload_n 0, 1) := by decide +kernel
theorem dX18_isSame_337 : decode cX18_isSame 337 = .ok (.getfield 31, 3) := by decide +kernel
theorem dX18_isSame_340 : decode cX18_isSame 340 = .ok (.if_icmp .ne 97, 3) := by decide +kernel
theorem dX18_isSame_343 : decode cX18_isSame 343 = .ok (.aload_n 1, 1) := by decide +kernel
theorem dX18_isSame_344 : decode cX18_isSame 344 = .ok (.invokevirtual 138, 3) := by decide +kernel
theorem dX18_isSame_347 : decode cX18_isSame 347 = .ok (.aload_n 0, 1) := by decide +kernel
theorem dX18_isSame_348 : decode cX18_isSame 348 = .ok (.getfield 34, 3) := by decide +kernel
theorem dX18_isSame_351 : decode cX18_isSame 351 = .ok (.if_icmp .ne 86, 3) := by decide +kernel
theorem dX18_isSame_354 : decode cX18_isSame 354 = .ok (.aload_n 1, 1) := by decide +kernel
theorem dX18_isSame_355 : decode cX18_isSame 355 = .ok (.invokevirtual 140, 3) := by decide +kernel
theorem dX18_isSame_358 : decode cX18_isSame 358 = .ok (.aload_n 0, 1) := by decide +kernel
theorem dX18_isSame_359 : decode cX18_isSame 359 = .ok (.getfield 76, 3) := by decide +kernel
theorem dX18_isSame_362 : decode cX18_isSame 362 = .ok (.if_icmp .ne 75, 3) := by decide +kernel
theorem dX18_isSame_365 : decode cX18_isSame 365 = .ok (.aload_n 1, 1) := by decide +kernel
theorem dX18_isSame_366 : decode cX18_isSame 366 = .ok (.invokevirtual 142, 3) := by decide +kernel
theorem dX18_isSame_369 : decode cX18_isSame 369 = .ok (.aload_n 0, 1) := by decide +kernel
theorem dX18_isSame_370 : decode cX18_isSame 370 = .ok (.getfield 79, 3) := by decide +kernel
theorem dX18_isSame_373 : decode cX18_isSame 373 = .ok (.if_icmp .ne 64, 3) := by decide +kernel
theorem dX18_isSame_376 : decode cX18_isSame 376 = .ok (.aload_n 1, 1) := by decide +kernel
theorem dX18_isSame_377 : decode cX18_isSame 377 = .ok (.invokevirtual 144, 3) := by decide +kernel
theorem dX18_isSame_380 : decode cX18_isSame 380 = .ok (.aload_n 0, 1) := by decide +kernel
theorem dX18_isSame_381 : decode cX18_isSame 381 = .ok (.iconst 1, 1) := by decide +kernel
theorem dX18_isSame_382 : decode cX18_isSame 382 = .ok (.invokevirtual 147, 3) := by decide +kernel
theorem dX18_isSame_385 : decode cX18_isSame 385 = .ok (.if_icmp .ne 52, 3) := by decide +kernel
theorem dX18_isSame_388 : decode cX18_isSame 388 = .ok (.aload_n 1, 1) := by decide +kernel
theorem dX18_isSame_389 : decode cX18_isSame 389 = .ok (.invokevirtual 150, 3) := by decide +kernel
theorem dX18_isSame_392 : decode cX18_isSame 392 = .ok (.aload_n 0, 1) := by decide +kernel
theorem dX18_isSame_393 : decode cX18_isSame 393 = .ok (.iconst 2, 1) := by decide +kernel
theorem dX18_isSame_394 : decode cX18_isSame 394 = .ok (.invokevirtual 147, 3) := by decide +kernel
theorem dX18_isSame_397 : decode cX18_isSame 397 = .ok (.if_icmp .ne 40, 3) := by decide +kernel
theorem dX18_isSame_400 : decode cX18_isSame 400 = .ok (.aload_n 1, 1) := by decide +kernel
theorem dX18_isSame_401 : decode cX18_isSame 401 = .ok (.invokevirtual 153, 3) := by decide +kernel
theorem dX18_isSame_404 : decode cX18_isSame 404 = .ok (.aload_n 0, 1) := by decide +kernel
theorem dX18_isSame_405 : decode cX18_isSame 405 = .ok (.iconst 3, 1) := by decide +kernel
theorem dX18_isSame_406 : decode cX18_isSame 406 = .ok (.invokevirtual 147, 3) := by decide +kernel
theorem dX18_isSame_409 : decode cX18_isSame 409 = .ok (.if_icmp .ne 28, 3) := by decide +kernel
theorem dX18_isSame_412 : decode cX18_isSame 412 = .ok (.aload_n 1, 1) := by decide +kernel
theorem dX18_isSame_413 : decode cX18_isSame 413 = .ok (.invokevirtual 156, 3) := by decide +kernel
theorem dX18_isSame_416 : decode cX18_isSame 416 = .ok (.iload_n 3, 1) := by decide +kernel
theorem dX18_isSame_417 : decode cX18_isSame 417 = .ok (.ifCond .ne 7, 3) := by decide +kernel
theorem dX18_isSame_420 : decode cX18_isSame 420 = .ok (.dconst 0, 1) := by decide +kernel
theorem dX18_isSame_421 : decode cX18_isSame 421 = .ok (.goto 8, 3) := by decide +kernel
theorem dX18_isSame_424 : decode cX18_isSame 424 = .ok (.iload_n 2, 1) := by decide +kernel
theorem dX18_isSame_425 : decode cX18_isSame 425 = .ok (.i2d, 1) := by decide +kernel
theorem dX18_isSame_426 : decode cX18_isSame 426 = .ok (.iload_n 3, 1) := by decide +kernel
theorem dX18_isSame_427 : decode cX18_isSame 427 = .ok (.i2d, 1) := by decide +kernel
theorem dX18_isSame_428 : decode cX18_isSame 428 = .ok (.ddiv, 1) := by decide +kernel
theorem dX18_isSame_429 : decode cX18_isSame 429 = .ok (.dcmp .l, 1) := by decide +kernel
theorem dX18_isSame_430 : decode cX18_isSame 430 = .ok (.ifCond .ne 7, 3) := by decide +kernel
theorem dX18_isSame_433 : decode cX18_isSame 433 = .ok (.iconst 1, 1) := by decide +kernel
theorem dX18_isSame_434 : decode cX18_isSame 434 = .ok (.goto 4, 3) := by decide +kernel
theorem dX18_isSame_437 : decode cX18_isSame 437 = .ok (.iconst 0, 1) := by decide +kernel
theorem dX18_isSame_438 : decode cX18_isSame 438 = .ok (.ireturn, 1) := by decide +kernel
theorem dJ5_init_d00df_0 : decode cJ5_init_d00df 0 = .ok (.aload_n 0, 1) := by decide +kernel
theorem dJ5_init_d00df_1 : decode cJ5_init_d00df 1 = .ok (.invokespecial 3, 3) := by decide +kernel
theorem dJ5_init_d00df_4 : decode cJ5_init_d00df 4 = .ok (.getstatic 18, 3) := by decide +kernel
theorem dJ5_init_d00df_7 : decode cJ5_init_d00df 7 = .ok (.ifCond .eq 18, 3) := by decide +kernel
theorem dJ5_init_d00df_10 : decode cJ5_init_d00df 10 = .ok (.aload_n 0, 1) := by decide +kernel
theorem dJ5_init_d00df_11 : decode cJ5_init_d00df 11 = .ok (.iload_n 1, 1) := by decide +kernel
theorem dJ5_init_d00df_12 : decode cJ5_init_d00df 12 = .ok (.newarray .byte, 2) := by decide +kernel
theorem dJ5_init_d00df_14 : decode cJ5_init_d00df 14 = .ok (.putfield 15, 3) := by decide +kernel
theorem dJ5_init_d00df_17 : decode cJ5_init_d00df 17 = .ok (.aload_n 0, 1) := by decide +kernel
theorem dJ5_init_d00df_18 : decode cJ5_init_d00df 18 = .ok (.iconst 0, 1) := by decide +kernel
theorem dJ5_init_d00df_19 : decode cJ5_init_d00df 19 = .ok (.putfield 22, 3) := by decide +kernel
theorem dJ5_init_d00df_22 : decode cJ5_init_d00df 22 = .ok (.goto 16, 3) := by decide +kernel
theorem dJ5_init_d00df_25 : decode cJ5_init_d00df 25 = .ok (.aload_n 0, 1) := by decide +kernel
theorem dJ5_init_d00df_26 : decode cJ5_init_d00df 26 = .ok (.iload_n 1, 1) := by decide +kernel
theorem dJ5_init_d00df_27 : decode cJ5_init_d00df 27 = .ok (.invokestatic 26, 3) := by decide +kernel
theorem dJ5_init_d00df_30 : decode cJ5_init_d00df 30 = .ok (.putfield 15, 3) := by decide +kernel
theorem dJ5_init_d00df_33 : decode cJ5_init_d00df 33 = .ok (.aload_n 0, 1) := by decide +kernel
theorem dJ5_init_d00df_34 : decode cJ5_init_d00df 34 = .ok (.iconst 1, 1) := by decide +kernel
theorem dJ5_init_d00df_35 : decode cJ5_init_d00df 35 = .ok (.putfield 22, 3) := by decide +kernel
theorem dJ5_init_d00df_38 : decode cJ5_init_d00df 38 = .ok (.return_, 1) := by decide +kernel
theorem dJ5_length_8abf5_0 : decode cJ5_length_8abf5 0 = .ok (.aload_n 0, 1) := by decide +kernel
theorem dJ5_length_8abf5_1 : decode cJ5_length_8abf5 1 = .ok (.getfield 79, 3) := by decide +kernel
theorem dJ5_length_8abf5_4 : decode cJ5_length_8abf5 4 = .ok (.ireturn, 1) := by decide +kernel
theorem dJ5_ensureCapacityInternal_d00df_0 : decode cJ5_ensureCapacityInternal_d00df 0 = .ok (.aload_n 0, 1) := by decide +kernel
theorem dJ5_ensureCapacityInternal_d00df_1 : decode cJ5_ensureCapacityInternal_d00df 1 = .ok (.getfield 15, 3) := by decide +kernel
theorem dJ5_ensureCapacityInternal_d00df_4 : decode cJ5_ensureCapacityInternal_d00df 4 = .ok (.arraylength, 1) := by decide +kernel
theorem dJ5_ensureCapacityInternal_d00df_5 : decode cJ5_ensureCapacityInternal_d00df 5 = .ok (.aload_n 0, 1) := by decide +kernel
theorem dJ5_ensureCapacityInternal_d00df_6 : decode cJ5_ensureCapacityInternal_d00df 6 = .ok (.getfield 22, 3) := by decide +kernel
theorem dJ5_ensureCapacityInternal_d00df_9 : decode cJ5_ensureCapacityInternal_d00df 9 = .ok (.ishr, 1) := by decide +kernel
theorem dJ5_ensureCapacityInternal_d00df_10 : decode cJ5_ensureCapacityInternal_d00df 10 = .ok (.istore_n 2, 1) := by decide +kernel
theorem dJ5_ensureCapacityInternal_d00df_11 : decode cJ5_ensureCapacityInternal_d00df 11 = .ok (.iload_n 1, 1) := by decide +kernel
theorem dJ5_ensureCapacityInternal_d00df_12 : decode cJ5_ensureCapacityInternal_d00df 12 = .ok (.iload_n 2, 1) := by decide +kernel
theorem dJ5_ensureCapacityInternal_d00df_13 : decode cJ5_ensureCapacityInternal_d00df 13 = .ok (.isub, 1) := by decide +kernel
theorem dJ5_ensureCapacityInternal_d00df_14 : decode cJ5_ensureCapacityInternal_d00df 14 = .ok (.ifCond .le 24, 3) := by decide +kernel
theorem dJ5_ensureCapacityInternal_d00df_17 : decode cJ5_ensureCapacityInternal_d00df 17 = .ok (.aload_n 0, 1) := by decide +kernel
theorem dJ5_ensureCapacityInternal_d00df_18 : decode cJ5_ensureCapacityInternal_d00df 18 = .ok (.aload_n 0, 1) := by decide +kernel
theorem dJ5_ensureCapacityInternal_d00df_19 : decode cJ5_ensureCapacityInternal_d00df 19 = .ok (.getfield 15, 3) := by decide +kernel
theorem dJ5_ensureCapacityInternal_d00df_22 : decode cJ5_ensureCapacityInternal_d00df 22 = .ok (.aload_n 0, 1) := by decide +kernel
theorem dJ5_ensureCapacityInternal_d00df_23 : decode cJ5_ensureCapacityInternal_d00df 23 = .ok (.iload_n 1, 1) := by decide +kernel
theorem dJ5_ensureCapacityInternal_d00df_24 : decode cJ5_ensureCapacityInternal_d00df 24 = .ok (.invokevirtual 104, 3) := by decide +kernel
theorem dJ5_ensureCapacityInternal_d00df_27 : decode cJ5_ensureCapacityInternal_d00df 27 = .ok (.aload_n 0, 1) := by decide +kernel
theorem dJ5_ensureCapacityInternal_d00df_28 : decode cJ5_ensureCapacityInternal_d00df 28 = .ok (.getfield 22, 3) := by decide +kernel
theorem dJ5_ensureCapacityInternal_d00df_31 : decode cJ5_ensureCapacityInternal_d00df 31 = .ok (.ishl, 1) := by decide +kernel
theorem dJ5_ensureCapacityInternal_d00df_32 : decode cJ5_ensureCapacityInternal_d00df 32 = .ok (.invokestatic 108, 3) := by decide +kernel
theorem dJ5_ensureCapacityInternal_d00df_35 : decode cJ5_ensureCapacityInternal_d00df 35 = .ok (.putfield 15, 3) := by decide +kernel
theorem dJ5_ensureCapacityInternal_d00df_38 : decode cJ5_ensureCapacityInternal_d00df 38 = .ok (.return_, 1) := by decide +kernel
theorem dJ5_newCapacity_0f7a4_0 : decode cJ5_newCapacity_0f7a4 0 = .ok (.aload_n 0, 1) := by decide +kernel
theorem dJ5_newCapacity_0f7a4_1 : decode cJ5_newCapacity_0f7a4 1 = .ok (.getfield 15, 3) := by decide +kernel
theorem dJ5_newCapacity_0f7a4_4 : decode cJ5_newCapacity_0f7a4 4 = .ok (.arraylength, 1) := by decide +kernel
theorem dJ5_newCapacity_0f7a4_5 : decode cJ5_newCapacity_0f7a4 5 = .ok (.istore_n 2, 1) := by decide +kernel
theorem dJ5_newCapacity_0f7a4_6 : decode cJ5_newCapacity_0f7a4 6 = .ok (.iload_n 1, 1) := by decide +kernel
theorem dJ5_newCapacity_0f7a4_7 : decode cJ5_newCapacity_0f7a4 7 = .ok (.aload_n 0, 1) := by decide +kernel
theorem dJ5_newCapacity_0f7a4_8 : decode cJ5_newCapacity_0f7a4 8 = .ok (.getfield 22, 3) := by decide +kernel
