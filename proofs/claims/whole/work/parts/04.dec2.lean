theorem dX12_digest_284 : decode cX12_digest 284 = .ok (.aload_n 0, 1) := by decide +kernel
theorem dX12_digest_285 : decode cX12_digest 285 = .ok (.getfield 26, 3) := by decide +kernel
theorem dX12_digest_288 : decode cX12_digest 288 = .ok (.getfield 131, 3) := by decide +kernel
theorem dX12_digest_291 : decode cX12_digest 291 = .ok (.invokevirtual 187, 3) := by decide +kernel
theorem dX12_digest_294 : decode cX12_digest 294 = .ok (.invokestatic 153, 3) := by decide +kernel
theorem dX12_digest_297 : decode cX12_digest 297 = .ok (.i2l, 1) := by decide +kernel
theorem dX12_digest_298 : decode cX12_digest 298 = .ok (.ladd, 1) := by decide +kernel
theorem dX12_digest_299 : decode cX12_digest 299 = .ok (.lstore_n 1, 1) := by decide +kernel
theorem dX12_digest_300 : decode cX12_digest 300 = .ok (.lload_n 1, 1) := by decide +kernel
theorem dX12_digest_301 : decode cX12_digest 301 = .ok (.ldc2_w 229, 3) := by decide +kernel
theorem dX12_digest_304 : decode cX12_digest 304 = .ok (.lmul, 1) := by decide +kernel
theorem dX12_digest_305 : decode cX12_digest 305 = .ok (.aload_n 0, 1) := by decide +kernel
theorem dX12_digest_306 : decode cX12_digest 306 = .ok (.getfield 26, 3) := by decide +kernel
theorem dX12_digest_309 : decode cX12_digest 309 = .ok (.getfield 157, 3) := by decide +kernel
theorem dX12_digest_312 : decode cX12_digest 312 = .ok (.iload_n 3, 1) := by decide +kernel
theorem dX12_digest_313 : decode cX12_digest 313 = .ok (.baload, 1) := by decide +kernel
theorem dX12_digest_314 : decode cX12_digest 314 = .ok (.invokestatic 153, 3) := by decide +kernel
theorem dX12_digest_317 : decode cX12_digest 317 = .ok (.i2l, 1) := by decide +kernel
theorem dX12_digest_318 : decode cX12_digest 318 = .ok (.ladd, 1) := by decide +kernel
theorem dX12_digest_319 : decode cX12_digest 319 = .ok (.lstore_n 1, 1) := by decide +kernel
theorem dX12_digest_320 : decode cX12_digest 320 = .ok (.lload_n 1, 1) := by decide +kernel
theorem dX12_digest_321 : decode cX12_digest 321 = .ok (.ldc2_w 229, 3) := by decide +kernel
theorem dX12_digest_324 : decode cX12_digest 324 = .ok (.lmul, 1) := by decide +kernel
theorem dX12_digest_325 : decode cX12_digest 325 = .ok (.aload_n 0, 1) := by decide +kernel
theorem dX12_digest_326 : decode cX12_digest 326 = .ok (.getfield 26, 3) := by decide +kernel
theorem dX12_digest_329 : decode cX12_digest 329 = .ok (.getfield 165, 3) := by decide +kernel
theorem dX12_digest_332 : decode cX12_digest 332 = .ok (.iload_n 3, 1) := by decide +kernel
theorem dX12_digest_333 : decode cX12_digest 333 = .ok (.baload, 1) := by decide +kernel
theorem dX12_digest_334 : decode cX12_digest 334 = .ok (.invokestatic 153, 3) := by decide +kernel
theorem dX12_digest_337 : decode cX12_digest 337 = .ok (.i2l, 1) := by decide +kernel
theorem dX12_digest_338 : decode cX12_digest 338 = .ok (.ladd, 1) := by decide +kernel
theorem dX12_digest_339 : decode cX12_digest 339 = .ok (.lstore_n 1, 1) := by decide +kernel
theorem dX12_digest_340 : decode cX12_digest 340 = .ok (.iinc 3 1, 3) := by decide +kernel
theorem dX12_digest_343 : decode cX12_digest 343 = .ok (.goto (-105), 3) := by decide +kernel
theorem dX12_digest_346 : decode cX12_digest 346 = .ok (.lload_n 1, 1) := by decide +kernel
theorem dX12_digest_347 : decode cX12_digest 347 = .ok (.lreturn, 1) := by decide +kernel
theorem dX12_requireFront_0 : decode cX12_requireFront 0 = .ok (.aload_n 0, 1) := by decide +kernel
theorem dX12_requireFront_1 : decode cX12_requireFront 1 = .ok (.getfield 26, 3) := by decide +kernel
theorem dX12_requireFront_4 : decode cX12_requireFront 4 = .ok (.getfield 102, 3) := by decide +kernel
theorem dX12_requireFront_7 : decode cX12_requireFront 7 = .ok (.getfield 109, 3) := by decide +kernel
theorem dX12_requireFront_10 : decode cX12_requireFront 10 = .ok (.iload_n 1, 1) := by decide +kernel
theorem dX12_requireFront_11 : decode cX12_requireFront 11 = .ok (.invokevirtual 264, 3) := by decide +kernel
theorem dX12_requireFront_14 : decode cX12_requireFront 14 = .ok (.ifCond .ne 14, 3) := by decide +kernel
theorem dX12_requireFront_17 : decode cX12_requireFront 17 = .ok (.new 267, 3) := by decide +kernel
theorem dX12_requireFront_20 : decode cX12_requireFront 20 = .ok (.dup, 1) := by decide +kernel
theorem dX12_requireFront_21 : decode cX12_requireFront 21 = .ok (.ldc_w 269, 3) := by decide +kernel
theorem dX12_requireFront_24 : decode cX12_requireFront 24 = .ok (.invokespecial 271, 3) := by decide +kernel
theorem dX12_requireFront_27 : decode cX12_requireFront 27 = .ok (.athrow, 1) := by decide +kernel
theorem dX12_requireFront_28 : decode cX12_requireFront 28 = .ok (.return_, 1) := by decide +kernel
theorem dX12_requireGuest_0 : decode cX12_requireGuest 0 = .ok (.aload_n 0, 1) := by decide +kernel
theorem dX12_requireGuest_1 : decode cX12_requireGuest 1 = .ok (.getfield 26, 3) := by decide +kernel
theorem dX12_requireGuest_4 : decode cX12_requireGuest 4 = .ok (.getfield 102, 3) := by decide +kernel
theorem dX12_requireGuest_7 : decode cX12_requireGuest 7 = .ok (.getfield 118, 3) := by decide +kernel
theorem dX12_requireGuest_10 : decode cX12_requireGuest 10 = .ok (.iload_n 1, 1) := by decide +kernel
theorem dX12_requireGuest_11 : decode cX12_requireGuest 11 = .ok (.invokevirtual 272, 3) := by decide +kernel
theorem dX12_requireGuest_14 : decode cX12_requireGuest 14 = .ok (.ifCond .ne 14, 3) := by decide +kernel
theorem dX12_requireGuest_17 : decode cX12_requireGuest 17 = .ok (.new 267, 3) := by decide +kernel
theorem dX12_requireGuest_20 : decode cX12_requireGuest 20 = .ok (.dup, 1) := by decide +kernel
theorem dX12_requireGuest_21 : decode cX12_requireGuest 21 = .ok (.ldc_w 273, 3) := by decide +kernel
theorem dX12_requireGuest_24 : decode cX12_requireGuest 24 = .ok (.invokespecial 271, 3) := by decide +kernel
theorem dX12_requireGuest_27 : decode cX12_requireGuest 27 = .ok (.athrow, 1) := by decide +kernel
theorem dX12_requireGuest_28 : decode cX12_requireGuest 28 = .ok (.return_, 1) := by decide +kernel
theorem dX12_requireHours_0 : decode cX12_requireHours 0 = .ok (.iload_n 0, 1) := by decide +kernel
theorem dX12_requireHours_1 : decode cX12_requireHours 1 = .ok (.iconst 1, 1) := by decide +kernel
theorem dX12_requireHours_2 : decode cX12_requireHours 2 = .ok (.if_icmp .lt 9, 3) := by decide +kernel
theorem dX12_requireHours_5 : decode cX12_requireHours 5 = .ok (.iload_n 0, 1) := by decide +kernel
theorem dX12_requireHours_6 : decode cX12_requireHours 6 = .ok (.bipush 30, 2) := by decide +kernel
theorem dX12_requireHours_8 : decode cX12_requireHours 8 = .ok (.if_icmp .le 14, 3) := by decide +kernel
theorem dX12_requireHours_11 : decode cX12_requireHours 11 = .ok (.new 58, 3) := by decide +kernel
theorem dX12_requireHours_14 : decode cX12_requireHours 14 = .ok (.dup, 1) := by decide +kernel
theorem dX12_requireHours_15 : decode cX12_requireHours 15 = .ok (.ldc_w 275, 3) := by decide +kernel
theorem dX12_requireHours_18 : decode cX12_requireHours 18 = .ok (.invokespecial 62, 3) := by decide +kernel
theorem dX12_requireHours_21 : decode cX12_requireHours 21 = .ok (.athrow, 1) := by decide +kernel
theorem dX12_requireHours_22 : decode cX12_requireHours 22 = .ok (.return_, 1) := by decide +kernel
theorem dX12_oneIf_0 : decode cX12_oneIf 0 = .ok (.iload_n 0, 1) := by decide +kernel
theorem dX12_oneIf_1 : decode cX12_oneIf 1 = .ok (.ifCond .eq 7, 3) := by decide +kernel
theorem dX12_oneIf_4 : decode cX12_oneIf 4 = .ok (.iconst 1, 1) := by decide +kernel
theorem dX12_oneIf_5 : decode cX12_oneIf 5 = .ok (.goto 4, 3) := by decide +kernel
theorem dX12_oneIf_8 : decode cX12_oneIf 8 = .ok (.iconst 0, 1) := by decide +kernel
theorem dX12_oneIf_9 : decode cX12_oneIf 9 = .ok (.ireturn, 1) := by decide +kernel
theorem dX12_countTrue_0 : decode cX12_countTrue 0 = .ok (.iconst 0, 1) := by decide +kernel
theorem dX12_countTrue_1 : decode cX12_countTrue 1 = .ok (.istore_n 2, 1) := by decide +kernel
theorem dX12_countTrue_2 : decode cX12_countTrue 2 = .ok (.iconst 0, 1) := by decide +kernel
theorem dX12_countTrue_3 : decode cX12_countTrue 3 = .ok (.istore_n 3, 1) := by decide +kernel
theorem dX12_countTrue_4 : decode cX12_countTrue 4 = .ok (.iload_n 3, 1) := by decide +kernel
theorem dX12_countTrue_5 : decode cX12_countTrue 5 = .ok (.iload_n 1, 1) := by decide +kernel
theorem dX12_countTrue_6 : decode cX12_countTrue 6 = .ok (.if_icmp .ge 24, 3) := by decide +kernel
theorem dX12_countTrue_9 : decode cX12_countTrue 9 = .ok (.iload_n 3, 1) := by decide +kernel
theorem dX12_countTrue_10 : decode cX12_countTrue 10 = .ok (.aload_n 0, 1) := by decide +kernel
theorem dX12_countTrue_11 : decode cX12_countTrue 11 = .ok (.arraylength, 1) := by decide +kernel
theorem dX12_countTrue_12 : decode cX12_countTrue 12 = .ok (.if_icmp .ge 18, 3) := by decide +kernel
theorem dX12_countTrue_15 : decode cX12_countTrue 15 = .ok (.iload_n 2, 1) := by decide +kernel
theorem dX12_countTrue_16 : decode cX12_countTrue 16 = .ok (.aload_n 0, 1) := by decide +kernel
theorem dX12_countTrue_17 : decode cX12_countTrue 17 = .ok (.iload_n 3, 1) := by decide +kernel
theorem dX12_countTrue_18 : decode cX12_countTrue 18 = .ok (.baload, 1) := by decide +kernel
theorem dX12_countTrue_19 : decode cX12_countTrue 19 = .ok (.invokestatic 153, 3) := by decide +kernel
theorem dX12_countTrue_22 : decode cX12_countTrue 22 = .ok (.iadd, 1) := by decide +kernel
theorem dX12_countTrue_23 : decode cX12_countTrue 23 = .ok (.istore_n 2, 1) := by decide +kernel
theorem dX12_countTrue_24 : decode cX12_countTrue 24 = .ok (.iinc 3 1, 3) := by decide +kernel
theorem dX12_countTrue_27 : decode cX12_countTrue 27 = .ok (.goto (-23), 3) := by decide +kernel
theorem dX12_countTrue_30 : decode cX12_countTrue 30 = .ok (.iload_n 2, 1) := by decide +kernel
theorem dX12_countTrue_31 : decode cX12_countTrue 31 = .ok (.ireturn, 1) := by decide +kernel
theorem dX13_init_0 : decode cX13_init 0 = .ok (.aload_n 0, 1) := by decide +kernel
theorem dX13_init_1 : decode cX13_init 1 = .ok (.invokespecial 3, 3) := by decide +kernel
theorem dX13_init_4 : decode cX13_init 4 = .ok (.aload_n 0, 1) := by decide +kernel
theorem dX13_init_5 : decode cX13_init 5 = .ok (.bipush 11, 2) := by decide +kernel
theorem dX13_init_7 : decode cX13_init 7 = .ok (.newarray .int, 2) := by decide +kernel
theorem dX13_init_9 : decode cX13_init 9 = .ok (.putfield 9, 3) := by decide +kernel
theorem dX13_init_12 : decode cX13_init 12 = .ok (.aload_n 0, 1) := by decide +kernel
theorem dX13_init_13 : decode cX13_init 13 = .ok (.bipush 11, 2) := by decide +kernel
theorem dX13_init_15 : decode cX13_init 15 = .ok (.newarray .int, 2) := by decide +kernel
theorem dX13_init_17 : decode cX13_init 17 = .ok (.putfield 15, 3) := by decide +kernel
theorem dX13_init_20 : decode cX13_init 20 = .ok (.aload_n 0, 1) := by decide +kernel
theorem dX13_init_21 : decode cX13_init 21 = .ok (.bipush 11, 2) := by decide +kernel
theorem dX13_init_23 : decode cX13_init 23 = .ok (.newarray .int, 2) := by decide +kernel
theorem dX13_init_25 : decode cX13_init 25 = .ok (.putfield 18, 3) := by decide +kernel
theorem dX13_init_28 : decode cX13_init 28 = .ok (.aload_n 0, 1) := by decide +kernel
theorem dX13_init_29 : decode cX13_init 29 = .ok (.bipush 11, 2) := by decide +kernel
theorem dX13_init_31 : decode cX13_init 31 = .ok (.newarray .int, 2) := by decide +kernel
theorem dX13_init_33 : decode cX13_init 33 = .ok (.putfield 21, 3) := by decide +kernel
theorem dX13_init_36 : decode cX13_init 36 = .ok (.aload_n 0, 1) := by decide +kernel
theorem dX13_init_37 : decode cX13_init 37 = .ok (.bipush 11, 2) := by decide +kernel
theorem dX13_init_39 : decode cX13_init 39 = .ok (.newarray .int, 2) := by decide +kernel
theorem dX13_init_41 : decode cX13_init 41 = .ok (.putfield 24, 3) := by decide +kernel
theorem dX13_init_44 : decode cX13_init 44 = .ok (.aload_n 0, 1) := by decide +kernel
theorem dX13_init_45 : decode cX13_init 45 = .ok (.bipush 11, 2) := by decide +kernel
theorem dX13_init_47 : decode cX13_init 47 = .ok (.newarray .int, 2) := by decide +kernel
theorem dX13_init_49 : decode cX13_init 49 = .ok (.putfield 27, 3) := by decide +kernel
theorem dX13_init_52 : decode cX13_init 52 = .ok (.aload_n 0, 1) := by decide +kernel
theorem dX13_init_53 : decode cX13_init 53 = .ok (.bipush 11, 2) := by decide +kernel
theorem dX13_init_55 : decode cX13_init 55 = .ok (.newarray .int, 2) := by decide +kernel
theorem dX13_init_57 : decode cX13_init 57 = .ok (.putfield 30, 3) := by decide +kernel
theorem dX13_init_60 : decode cX13_init 60 = .ok (.aload_n 0, 1) := by decide +kernel
theorem dX13_init_61 : decode cX13_init 61 = .ok (.bipush 11, 2) := by decide +kernel
theorem dX13_init_63 : decode cX13_init 63 = .ok (.newarray .int, 2) := by decide +kernel
theorem dX13_init_65 : decode cX13_init 65 = .ok (.putfield 33, 3) := by decide +kernel
theorem dX13_init_68 : decode cX13_init 68 = .ok (.aload_n 0, 1) := by decide +kernel
theorem dX13_init_69 : decode cX13_init 69 = .ok (.bipush 17, 2) := by decide +kernel
theorem dX13_init_71 : decode cX13_init 71 = .ok (.newarray .int, 2) := by decide +kernel
theorem dX13_init_73 : decode cX13_init 73 = .ok (.putfield 36, 3) := by decide +kernel
theorem dX13_init_76 : decode cX13_init 76 = .ok (.aload_n 0, 1) := by decide +kernel
theorem dX13_init_77 : decode cX13_init 77 = .ok (.bipush 17, 2) := by decide +kernel
theorem dX13_init_79 : decode cX13_init 79 = .ok (.newarray .int, 2) := by decide +kernel
theorem dX13_init_81 : decode cX13_init 81 = .ok (.putfield 39, 3) := by decide +kernel
theorem dX13_init_84 : decode cX13_init 84 = .ok (.aload_n 0, 1) := by decide +kernel
theorem dX13_init_85 : decode cX13_init 85 = .ok (.bipush 17, 2) := by decide +kernel
theorem dX13_init_87 : decode cX13_init 87 = .ok (.newarray .int, 2) := by decide +kernel
theorem dX13_init_89 : decode cX13_init 89 = .ok (.putfield 42, 3) := by decide +kernel
theorem dX13_init_92 : decode cX13_init 92 = .ok (.aload_n 0, 1) := by decide +kernel
theorem dX13_init_93 : decode cX13_init 93 = .ok (.bipush 17, 2) := by decide +kernel
theorem dX13_init_95 : decode cX13_init 95 = .ok (.newarray .int, 2) := by decide +kernel
theorem dX13_init_97 : decode cX13_init 97 = .ok (.putfield 45, 3) := by decide +kernel
theorem dX13_init_100 : decode cX13_init 100 = .ok (.aload_n 0, 1) := by decide +kernel
theorem dX13_init_101 : decode cX13_init 101 = .ok (.bipush 17, 2) := by decide +kernel
theorem dX13_init_103 : decode cX13_init 103 = .ok (.newarray .int, 2) := by decide +kernel
theorem dX13_init_105 : decode cX13_init 105 = .ok (.putfield 48, 3) := by decide +kernel
theorem dX13_init_108 : decode cX13_init 108 = .ok (.aload_n 0, 1) := by decide +kernel
theorem dX13_init_109 : decode cX13_init 109 = .ok (.sipush 800, 3) := by decide +kernel
theorem dX13_init_112 : decode cX13_init 112 = .ok (.newarray .int, 2) := by decide +kernel
theorem dX13_init_114 : decode cX13_init 114 = .ok (.putfield 51, 3) := by decide +kernel
theorem dX13_init_117 : decode cX13_init 117 = .ok (.aload_n 0, 1) := by decide +kernel
theorem dX13_init_118 : decode cX13_init 118 = .ok (.sipush 800, 3) := by decide +kernel
theorem dX13_init_121 : decode cX13_init 121 = .ok (.newarray .int, 2) := by decide +kernel
theorem dX13_init_123 : decode cX13_init 123 = .ok (.putfield 54, 3) := by decide +kernel
theorem dX13_init_126 : decode cX13_init 126 = .ok (.aload_n 0, 1) := by decide +kernel
theorem dX13_init_127 : decode cX13_init 127 = .ok (.sipush 800, 3) := by decide +kernel
theorem dX13_init_130 : decode cX13_init 130 = .ok (.newarray .int, 2) := by decide +kernel
theorem dX13_init_132 : decode cX13_init 132 = .ok (.putfield 57, 3) := by decide +kernel
theorem dX13_init_135 : decode cX13_init 135 = .ok (.return_, 1) := by decide +kernel
theorem dX13_begin_0 : decode cX13_begin 0 = .ok (.aload_n 0, 1) := by decide +kernel
theorem dX13_begin_1 : decode cX13_begin 1 = .ok (.iconst 0, 1) := by decide +kernel
theorem dX13_begin_2 : decode cX13_begin 2 = .ok (.putfield 60, 3) := by decide +kernel
theorem dX13_begin_5 : decode cX13_begin 5 = .ok (.aload_n 0, 1) := by decide +kernel
theorem dX13_begin_6 : decode cX13_begin 6 = .ok (.iconst 0, 1) := by decide +kernel
theorem dX13_begin_7 : decode cX13_begin 7 = .ok (.putfield 64, 3) := by decide +kernel
theorem dX13_begin_10 : decode cX13_begin 10 = .ok (.aload_n 0, 1) := by decide +kernel
theorem dX13_begin_11 : decode cX13_begin 11 = .ok (.iconst 0, 1) := by decide +kernel
theorem dX13_begin_12 : decode cX13_begin 12 = .ok (.putfield 67, 3) := by decide +kernel
theorem dX13_begin_15 : decode cX13_begin 15 = .ok (.aload_n 0, 1) := by decide +kernel
theorem dX13_begin_16 : decode cX13_begin 16 = .ok (.iconst 0, 1) := by decide +kernel
theorem dX13_begin_17 : decode cX13_begin 17 = .ok (.putfield 70, 3) := by decide +kernel
theorem dX13_begin_20 : decode cX13_begin 20 = .ok (.return_, 1) := by decide +kernel
theorem dX13_copy_0 : decode cX13_copy 0 = .ok (.aload_n 0, 1) := by decide +kernel
theorem dX13_copy_1 : decode cX13_copy 1 = .ok (.iconst 0, 1) := by decide +kernel
theorem dX13_copy_2 : decode cX13_copy 2 = .ok (.aload_n 1, 1) := by decide +kernel
theorem dX13_copy_3 : decode cX13_copy 3 = .ok (.iconst 0, 1) := by decide +kernel
theorem dX13_copy_4 : decode cX13_copy 4 = .ok (.aload_n 1, 1) := by decide +kernel
theorem dX13_copy_5 : decode cX13_copy 5 = .ok (.arraylength, 1) := by decide +kernel
theorem dX13_copy_6 : decode cX13_copy 6 = .ok (.invokestatic 73, 3) := by decide +kernel
theorem dX13_copy_9 : decode cX13_copy 9 = .ok (.return_, 1) := by decide +kernel
theorem dX13_become_0 : decode cX13_become 0 = .ok (.aload_n 0, 1) := by decide +kernel
theorem dX13_become_1 : decode cX13_become 1 = .ok (.aload_n 1, 1) := by decide +kernel
theorem dX13_become_2 : decode cX13_become 2 = .ok (.getfield 60, 3) := by decide +kernel
theorem dX13_become_5 : decode cX13_become 5 = .ok (.putfield 60, 3) := by decide +kernel
theorem dX13_become_8 : decode cX13_become 8 = .ok (.aload_n 0, 1) := by decide +kernel
theorem dX13_become_9 : decode cX13_become 9 = .ok (.aload_n 1, 1) := by decide +kernel
theorem dX13_become_10 : decode cX13_become 10 = .ok (.getfield 64, 3) := by decide +kernel
theorem dX13_become_13 : decode cX13_become 13 = .ok (.putfield 64, 3) := by decide +kernel
theorem dX13_become_16 : decode cX13_become 16 = .ok (.aload_n 0, 1) := by decide +kernel
theorem dX13_become_17 : decode cX13_become 17 = .ok (.aload_n 1, 1) := by decide +kernel
theorem dX13_become_18 : decode cX13_become 18 = .ok (.getfield 67, 3) := by decide +kernel
theorem dX13_become_21 : decode cX13_become 21 = .ok (.putfield 67, 3) := by decide +kernel
theorem dX13_become_24 : decode cX13_become 24 = .ok (.aload_n 0, 1) := by decide +kernel
theorem dX13_become_25 : decode cX13_become 25 = .ok (.aload_n 1, 1) := by decide +kernel
theorem dX13_become_26 : decode cX13_become 26 = .ok (.getfield 70, 3) := by decide +kernel
theorem dX13_become_29 : decode cX13_become 29 = .ok (.putfield 70, 3) := by decide +kernel
theorem dX13_become_32 : decode cX13_become 32 = .ok (.aload_n 1, 1) := by decide +kernel
theorem dX13_become_33 : decode cX13_become 33 = .ok (.getfield 9, 3) := by decide +kernel
theorem dX13_become_36 : decode cX13_become 36 = .ok (.aload_n 0, 1) := by decide +kernel
theorem dX13_become_37 : decode cX13_become 37 = .ok (.getfield 9, 3) := by decide +kernel
theorem dX13_become_40 : decode cX13_become 40 = .ok (.invokestatic 79, 3) := by decide +kernel
theorem dX13_become_43 : decode cX13_become 43 = .ok (.aload_n 1, 1) := by decide +kernel
theorem dX13_become_44 : decode cX13_become 44 = .ok (.getfield 15, 3) := by decide +kernel
theorem dX13_become_47 : decode cX13_become 47 = .ok (.aload_n 0, 1) := by decide +kernel
theorem dX13_become_48 : decode cX13_become 48 = .ok (.getfield 15, 3) := by decide +kernel
theorem dX13_become_51 : decode cX13_become 51 = .ok (.invokestatic 79, 3) := by decide +kernel
theorem dX13_become_54 : decode cX13_become 54 = .ok (.aload_n 1, 1) := by decide +kernel
theorem dX13_become_55 : decode cX13_become 55 = .ok (.getfield 18, 3) := by decide +kernel
theorem dX13_become_58 : decode cX13_become 58 = .ok (.aload_n 0, 1) := by decide +kernel
theorem dX13_become_59 : decode cX13_become 59 = .ok (.getfield 18, 3) := by decide +kernel
theorem dX13_become_62 : decode cX13_become 62 = .ok (.invokestatic 79, 3) := by decide +kernel
theorem dX13_become_65 : decode cX13_become 65 = .ok (.aload_n 1, 1) := by decide +kernel
theorem dX13_become_66 : decode cX13_become 66 = .ok (.getfield 21, 3) := by decide +kernel
theorem dX13_become_69 : decode cX13_become 69 = .ok (.aload_n 0, 1) := by decide +kernel
theorem dX13_become_70 : decode cX13_become 70 = .ok (.getfield 21, 3) := by decide +kernel
theorem dX13_become_73 : decode cX13_become 73 = .ok (.invokestatic 79, 3) := by decide +kernel
theorem dX13_become_76 : decode cX13_become 76 = .ok (.aload_n 1, 1) := by decide +kernel
theorem dX13_become_77 : decode cX13_become 77 = .ok (.getfield 24, 3) := by decide +kernel
theorem dX13_become_80 : decode cX13_become 80 = .ok (.aload_n 0, 1) := by decide +kernel
theorem dX13_become_81 : decode cX13_become 81 = .ok (.getfield 24, 3) := by decide +kernel
theorem dX13_become_84 : decode cX13_become 84 = .ok (.invokestatic 79, 3) := by decide +kernel
theorem dX13_become_87 : decode cX13_become 87 = .ok (.aload_n 1, 1) := by decide +kernel
theorem dX13_become_88 : decode cX13_become 88 = .ok (.getfield 27, 3) := by decide +kernel
theorem dX13_become_91 : decode cX13_become 91 = .ok (.aload_n 0, 1) := by decide +kernel
theorem dX13_become_92 : decode cX13_become 92 = .ok (.getfield 27, 3) := by decide +kernel
theorem dX13_become_95 : decode cX13_become 95 = .ok (.invokestatic 79, 3) := by decide +kernel
theorem dX13_become_98 : decode cX13_become 98 = .ok (.aload_n 1, 1) := by decide +kernel
theorem dX13_become_99 : decode cX13_become 99 = .ok (.getfield 30, 3) := by decide +kernel
theorem dX13_become_102 : decode cX13_become 102 = .ok (.aload_n 0, 1) := by decide +kernel
theorem dX13_become_103 : decode cX13_become 103 = .ok (.getfield 30, 3) := by decide +kernel
theorem dX13_become_106 : decode cX13_become 106 = .ok (.invokestatic 79, 3) := by decide +kernel
theorem dX13_become_109 : decode cX13_become 109 = .ok (.aload_n 1, 1) := by decide +kernel
theorem dX13_become_110 : decode cX13_become 110 = .ok (.getfield 33, 3) := by decide +kernel
theorem dX13_become_113 : decode cX13_become 113 = .ok (.aload_n 0, 1) := by decide +kernel
theorem dX13_become_114 : decode cX13_become 114 = .ok (.getfield 33, 3) := by decide +kernel
theorem dX13_become_117 : decode cX13_become 117 = .ok (.invokestatic 79, 3) := by decide +kernel
theorem dX13_become_120 : decode cX13_become 120 = .ok (.aload_n 1, 1) := by decide +kernel
theorem dX13_become_121 : decode cX13_become 121 = .ok (.getfield 36, 3) := by decide +kernel
theorem dX13_become_124 : decode cX13_become 124 = .ok (.aload_n 0, 1) := by decide +kernel
theorem dX13_become_125 : decode cX13_become 125 = .ok (.getfield 36, 3) := by decide +kernel
theorem dX13_become_128 : decode cX13_become 128 = .ok (.invokestatic 79, 3) := by decide +kernel
theorem dX13_become_131 : decode cX13_become 131 = .ok (.aload_n 1, 1) := by decide +kernel
theorem dX13_become_132 : decode cX13_become 132 = .ok (.getfield 39, 3) := by decide +kernel
theorem dX13_become_135 : decode cX13_become 135 = .ok (.aload_n 0, 1) := by decide +kernel
theorem dX13_become_136 : decode cX13_become 136 = .ok (.getfield 39, 3) := by decide +kernel
theorem dX13_become_139 : decode cX13_become 139 = .ok (.invokestatic 79, 3) := by decide +kernel
theorem dX13_become_142 : decode cX13_become 142 = .ok (.aload_n 1, 1) := by decide +kernel
theorem dX13_become_143 : decode cX13_become 143 = .ok (.getfield 42, 3) := by decide +kernel
theorem dX13_become_146 : decode cX13_become 146 = .ok (.aload_n 0, 1) := by decide +kernel
theorem dX13_become_147 : decode cX13_become 147 = .ok (.getfield 42, 3) := by decide +kernel
theorem dX13_become_150 : decode cX13_become 150 = .ok (.invokestatic 79, 3) := by decide +kernel
theorem dX13_become_153 : decode cX13_become 153 = .ok (.aload_n 1, 1) := by decide +kernel
theorem dX13_become_154 : decode cX13_become 154 = .ok (.getfield 45, 3) := by decide +kernel
theorem dX13_become_157 : decode cX13_become 157 = .ok (.aload_n 0, 1) := by decide +kernel
theorem dX13_become_158 : decode cX13_become 158 = .ok (.getfield 45, 3) := by decide +kernel
theorem dX13_become_161 : decode cX13_become 161 = .ok (.invokestatic 79, 3) := by decide +kernel
theorem dX13_become_164 : decode cX13_become 164 = .ok (.aload_n 1, 1) := by decide +kernel
theorem dX13_become_165 : decode cX13_become 165 = .ok (.getfield 48, 3) := by decide +kernel
theorem dX13_become_168 : decode cX13_become 168 = .ok (.aload_n 0, 1) := by decide +kernel
theorem dX13_become_169 : decode cX13_become 169 = .ok (.getfield 48, 3) := by decide +kernel
theorem dX13_become_172 : decode cX13_become 172 = .ok (.invokestatic 79, 3) := by decide +kernel
theorem dX13_become_175 : decode cX13_become 175 = .ok (.aload_n 1, 1) := by decide +kernel
theorem dX13_become_176 : decode cX13_become 176 = .ok (.getfield 51, 3) := by decide +kernel
theorem dX13_become_179 : decode cX13_become 179 = .ok (.aload_n 0, 1) := by decide +kernel
theorem dX13_become_180 : decode cX13_become 180 = .ok (.getfield 51, 3) := by decide +kernel
theorem dX13_become_183 : decode cX13_become 183 = .ok (.invokestatic 79, 3) := by decide +kernel
theorem dX13_become_186 : decode cX13_become 186 = .ok (.aload_n 1, 1) := by decide +kernel
theorem dX13_become_187 : decode cX13_become 187 = .ok (.getfield 54, 3) := by decide +kernel
theorem dX13_become_190 : decode cX13_become 190 = .ok (.aload_n 0, 1) := by decide +kernel
theorem dX13_become_191 : decode cX13_become 191 = .ok (.getfield 54, 3) := by decide +kernel
theorem dX13_become_194 : decode cX13_become 194 = .ok (.invokestatic 79, 3) := by decide +kernel
theorem dX13_become_197 : decode cX13_become 197 = .ok (.aload_n 1, 1) := by decide +kernel
theorem dX13_become_198 : decode cX13_become 198 = .ok (.getfield 57, 3) := by decide +kernel
theorem dX13_become_201 : decode cX13_become 201 = .ok (.aload_n 0, 1) := by decide +kernel
theorem dX13_become_202 : decode cX13_become 202 = .ok (.getfield 57, 3) := by decide +kernel
theorem dX13_become_205 : decode cX13_become 205 = .ok (.invokestatic 79, 3) := by decide +kernel
theorem dX13_become_208 : decode cX13_become 208 = .ok (.return_, 1) := by decide +kernel
theorem dX14_init_0 : decode cX14_init 0 = .ok (.aload_n 0, 1) := by decide +kernel
theorem dX14_init_1 : decode cX14_init 1 = .ok (.invokespecial 3, 3) := by decide +kernel
theorem dX14_init_4 : decode cX14_init 4 = .ok (.aload_n 0, 1) := by decide +kernel
theorem dX14_init_5 : decode cX14_init 5 = .ok (.sipush 2000, 3) := by decide +kernel
theorem dX14_init_8 : decode cX14_init 8 = .ok (.newarray .int, 2) := by decide +kernel
theorem dX14_init_10 : decode cX14_init 10 = .ok (.putfield 9, 3) := by decide +kernel
theorem dX14_init_13 : decode cX14_init 13 = .ok (.aload_n 0, 1) := by decide +kernel
theorem dX14_init_14 : decode cX14_init 14 = .ok (.iconst (-1), 1) := by decide +kernel
theorem dX14_init_15 : decode cX14_init 15 = .ok (.putfield 13, 3) := by decide +kernel
theorem dX14_init_18 : decode cX14_init 18 = .ok (.aload_n 0, 1) := by decide +kernel
theorem dX14_init_19 : decode cX14_init 19 = .ok (.sipush 402, 3) := by decide +kernel
theorem dX14_init_22 : decode cX14_init 22 = .ok (.newarray .int, 2) := by decide +kernel
theorem dX14_init_24 : decode cX14_init 24 = .ok (.putfield 17, 3) := by decide +kernel
theorem dX14_init_27 : decode cX14_init 27 = .ok (.aload_n 0, 1) := by decide +kernel
theorem dX14_init_28 : decode cX14_init 28 = .ok (.sipush 402, 3) := by decide +kernel
theorem dX14_init_31 : decode cX14_init 31 = .ok (.newarray .int, 2) := by decide +kernel
theorem dX14_init_33 : decode cX14_init 33 = .ok (.putfield 20, 3) := by decide +kernel
theorem dX14_init_36 : decode cX14_init 36 = .ok (.aload_n 0, 1) := by decide +kernel
theorem dX14_init_37 : decode cX14_init 37 = .ok (.sipush 402, 3) := by decide +kernel
theorem dX14_init_40 : decode cX14_init 40 = .ok (.newarray .int, 2) := by decide +kernel
theorem dX14_init_42 : decode cX14_init 42 = .ok (.putfield 23, 3) := by decide +kernel
theorem dX14_init_45 : decode cX14_init 45 = .ok (.aload_n 0, 1) := by decide +kernel
theorem dX14_init_46 : decode cX14_init 46 = .ok (.sipush 402, 3) := by decide +kernel
theorem dX14_init_49 : decode cX14_init 49 = .ok (.newarray .int, 2) := by decide +kernel
theorem dX14_init_51 : decode cX14_init 51 = .ok (.putfield 26, 3) := by decide +kernel
theorem dX14_init_54 : decode cX14_init 54 = .ok (.aload_n 0, 1) := by decide +kernel
theorem dX14_init_55 : decode cX14_init 55 = .ok (.bipush 10, 2) := by decide +kernel
theorem dX14_init_57 : decode cX14_init 57 = .ok (.newarray .int, 2) := by decide +kernel
theorem dX14_init_59 : decode cX14_init 59 = .ok (.putfield 29, 3) := by decide +kernel
theorem dX14_init_62 : decode cX14_init 62 = .ok (.aload_n 0, 1) := by decide +kernel
theorem dX14_init_63 : decode cX14_init 63 = .ok (.bipush 10, 2) := by decide +kernel
theorem dX14_init_65 : decode cX14_init 65 = .ok (.newarray .int, 2) := by decide +kernel
theorem dX14_init_67 : decode cX14_init 67 = .ok (.putfield 32, 3) := by decide +kernel
theorem dX14_init_70 : decode cX14_init 70 = .ok (.aload_n 0, 1) := by decide +kernel
theorem dX14_init_71 : decode cX14_init 71 = .ok (.new 35, 3) := by decide +kernel
theorem dX14_init_74 : decode cX14_init 74 = .ok (.dup, 1) := by decide +kernel
theorem dX14_init_75 : decode cX14_init 75 = .ok (.invokespecial 37, 3) := by decide +kernel
theorem dX14_init_78 : decode cX14_init 78 = .ok (.putfield 38, 3) := by decide +kernel
theorem dX14_init_81 : decode cX14_init 81 = .ok (.aload_n 0, 1) := by decide +kernel
theorem dX14_init_82 : decode cX14_init 82 = .ok (.new 35, 3) := by decide +kernel
theorem dX14_init_85 : decode cX14_init 85 = .ok (.dup, 1) := by decide +kernel
theorem dX14_init_86 : decode cX14_init 86 = .ok (.invokespecial 37, 3) := by decide +kernel
theorem dX14_init_89 : decode cX14_init 89 = .ok (.putfield 42, 3) := by decide +kernel
theorem dX14_init_92 : decode cX14_init 92 = .ok (.aload_n 0, 1) := by decide +kernel
theorem dX14_init_93 : decode cX14_init 93 = .ok (.sipush 800, 3) := by decide +kernel
theorem dX14_init_96 : decode cX14_init 96 = .ok (.newarray .int, 2) := by decide +kernel
theorem dX14_init_98 : decode cX14_init 98 = .ok (.putfield 45, 3) := by decide +kernel
theorem dX14_init_101 : decode cX14_init 101 = .ok (.aload_n 0, 1) := by decide +kernel
theorem dX14_init_102 : decode cX14_init 102 = .ok (.bipush 58, 2) := by decide +kernel
theorem dX14_init_104 : decode cX14_init 104 = .ok (.newarray .int, 2) := by decide +kernel
theorem dX14_init_106 : decode cX14_init 106 = .ok (.putfield 48, 3) := by decide +kernel
theorem dX14_init_109 : decode cX14_init 109 = .ok (.aload_n 0, 1) := by decide +kernel
theorem dX14_init_110 : decode cX14_init 110 = .ok (.bipush 58, 2) := by decide +kernel
theorem dX14_init_112 : decode cX14_init 112 = .ok (.newarray .int, 2) := by decide +kernel
theorem dX14_init_114 : decode cX14_init 114 = .ok (.putfield 51, 3) := by decide +kernel
theorem dX14_init_117 : decode cX14_init 117 = .ok (.aload_n 0, 1) := by decide +kernel
theorem dX14_init_118 : decode cX14_init 118 = .ok (.invokevirtual 54, 3) := by decide +kernel
theorem dX14_init_121 : decode cX14_init 121 = .ok (.return_, 1) := by decide +kernel
theorem dX14_thrown_0 : decode cX14_thrown 0 = .ok (.aload_n 0, 1) := by decide +kernel
theorem dX14_thrown_1 : decode cX14_thrown 1 = .ok (.getfield 57, 3) := by decide +kernel
theorem dX14_thrown_4 : decode cX14_thrown 4 = .ok (.ireturn, 1) := by decide +kernel
theorem dX14_no_0 : decode cX14_no 0 = .ok (.aload_n 0, 1) := by decide +kernel
theorem dX14_no_1 : decode cX14_no 1 = .ok (.iload_n 1, 1) := by decide +kernel
theorem dX14_no_2 : decode cX14_no 2 = .ok (.putfield 57, 3) := by decide +kernel
theorem dX14_no_5 : decode cX14_no 5 = .ok (.iconst 0, 1) := by decide +kernel
theorem dX14_no_6 : decode cX14_no 6 = .ok (.ireturn, 1) := by decide +kernel
theorem dX14_ok_0 : decode cX14_ok 0 = .ok (.aload_n 0, 1) := by decide +kernel
theorem dX14_ok_1 : decode cX14_ok 1 = .ok (.iconst 0, 1) := by decide +kernel
theorem dX14_ok_2 : decode cX14_ok 2 = .ok (.putfield 57, 3) := by decide +kernel
theorem dX14_ok_5 : decode cX14_ok 5 = .ok (.iload_n 1, 1) := by decide +kernel
theorem dX14_ok_6 : decode cX14_ok 6 = .ok (.ireturn, 1) := by decide +kernel
theorem dX14_isIn_0 : decode cX14_isIn 0 = .ok (.iload_n 0, 1) := by decide +kernel
theorem dX14_isIn_1 : decode cX14_isIn 1 = .ok (.iload_n 1, 1) := by decide +kernel
theorem dX14_isIn_2 : decode cX14_isIn 2 = .ok (.if_icmp .lt 12, 3) := by decide +kernel
theorem dX14_isIn_5 : decode cX14_isIn 5 = .ok (.iload_n 0, 1) := by decide +kernel
theorem dX14_isIn_6 : decode cX14_isIn 6 = .ok (.iload_n 2, 1) := by decide +kernel
theorem dX14_isIn_7 : decode cX14_isIn 7 = .ok (.if_icmp .gt 7, 3) := by decide +kernel
theorem dX14_isIn_10 : decode cX14_isIn 10 = .ok (.iconst 1, 1) := by decide +kernel
theorem dX14_isIn_11 : decode cX14_isIn 11 = .ok (.goto 4, 3) := by decide +kernel
theorem dX14_isIn_14 : decode cX14_isIn 14 = .ok (.iconst 0, 1) := by decide +kernel
theorem dX14_isIn_15 : decode cX14_isIn 15 = .ok (.ireturn, 1) := by decide +kernel
theorem dX14_held_0 : decode cX14_held 0 = .ok (.iconst 0, 1) := by decide +kernel
theorem dX14_held_1 : decode cX14_held 1 = .ok (.iload_n 1, 1) := by decide +kernel
theorem dX14_held_2 : decode cX14_held 2 = .ok (.iload_n 0, 1) := by decide +kernel
theorem dX14_held_3 : decode cX14_held 3 = .ok (.invokestatic 60, 3) := by decide +kernel
theorem dX14_held_6 : decode cX14_held 6 = .ok (.invokestatic 66, 3) := by decide +kernel
theorem dX14_held_9 : decode cX14_held 9 = .ok (.ireturn, 1) := by decide +kernel
theorem dX14_anew_0 : decode cX14_anew 0 = .ok (.iconst 0, 1) := by decide +kernel
theorem dX14_anew_1 : decode cX14_anew 1 = .ok (.istore_n 1, 1) := by decide +kernel
theorem dX14_anew_2 : decode cX14_anew 2 = .ok (.iload_n 1, 1) := by decide +kernel
theorem dX14_anew_3 : decode cX14_anew 3 = .ok (.bipush 58, 2) := by decide +kernel
theorem dX14_anew_5 : decode cX14_anew 5 = .ok (.if_icmp .ge 16, 3) := by decide +kernel
theorem dX14_anew_8 : decode cX14_anew 8 = .ok (.aload_n 0, 1) := by decide +kernel
theorem dX14_anew_9 : decode cX14_anew 9 = .ok (.getfield 48, 3) := by decide +kernel
theorem dX14_anew_12 : decode cX14_anew 12 = .ok (.iload_n 1, 1) := by decide +kernel
theorem dX14_anew_13 : decode cX14_anew 13 = .ok (.iconst 0, 1) := by decide +kernel
theorem dX14_anew_14 : decode cX14_anew 14 = .ok (.iastore, 1) := by decide +kernel
theorem dX14_anew_15 : decode cX14_anew 15 = .ok (.iinc 1 1, 3) := by decide +kernel
theorem dX14_anew_18 : decode cX14_anew 18 = .ok (.goto (-16), 3) := by decide +kernel
theorem dX14_anew_21 : decode cX14_anew 21 = .ok (.aload_n 0, 1) := by decide +kernel
theorem dX14_anew_22 : decode cX14_anew 22 = .ok (.getfield 48, 3) := by decide +kernel
theorem dX14_anew_25 : decode cX14_anew 25 = .ok (.iconst 1, 1) := by decide +kernel
theorem dX14_anew_26 : decode cX14_anew 26 = .ok (.bipush 20, 2) := by decide +kernel
theorem dX14_anew_28 : decode cX14_anew 28 = .ok (.iastore, 1) := by decide +kernel
theorem dX14_anew_29 : decode cX14_anew 29 = .ok (.aload_n 0, 1) := by decide +kernel
theorem dX14_anew_30 : decode cX14_anew 30 = .ok (.getfield 48, 3) := by decide +kernel
theorem dX14_anew_33 : decode cX14_anew 33 = .ok (.iconst 4, 1) := by decide +kernel
theorem dX14_anew_34 : decode cX14_anew 34 = .ok (.iconst 3, 1) := by decide +kernel
theorem dX14_anew_35 : decode cX14_anew 35 = .ok (.iastore, 1) := by decide +kernel
theorem dX14_anew_36 : decode cX14_anew 36 = .ok (.aload_n 0, 1) := by decide +kernel
theorem dX14_anew_37 : decode cX14_anew 37 = .ok (.getfield 48, 3) := by decide +kernel
theorem dX14_anew_40 : decode cX14_anew 40 = .ok (.iconst 5, 1) := by decide +kernel
theorem dX14_anew_41 : decode cX14_anew 41 = .ok (.iconst 3, 1) := by decide +kernel
theorem dX14_anew_42 : decode cX14_anew 42 = .ok (.iastore, 1) := by decide +kernel
theorem dX14_anew_43 : decode cX14_anew 43 = .ok (.aload_n 0, 1) := by decide +kernel
theorem dX14_anew_44 : decode cX14_anew 44 = .ok (.invokevirtual 69, 3) := by decide +kernel
theorem dX14_anew_47 : decode cX14_anew 47 = .ok (.return_, 1) := by decide +kernel
theorem dX14_isLetter_0 : decode cX14_isLetter 0 = .ok (.iload_n 0, 1) := by decide +kernel
theorem dX14_isLetter_1 : decode cX14_isLetter 1 = .ok (.bipush 97, 2) := by decide +kernel
theorem dX14_isLetter_3 : decode cX14_isLetter 3 = .ok (.bipush 122, 2) := by decide +kernel
theorem dX14_isLetter_5 : decode cX14_isLetter 5 = .ok (.invokestatic 72, 3) := by decide +kernel
theorem dX14_isLetter_8 : decode cX14_isLetter 8 = .ok (.ireturn, 1) := by decide +kernel
theorem dX14_isDigit_0 : decode cX14_isDigit 0 = .ok (.iload_n 0, 1) := by decide +kernel
theorem dX14_isDigit_1 : decode cX14_isDigit 1 = .ok (.bipush 48, 2) := by decide +kernel
theorem dX14_isDigit_3 : decode cX14_isDigit 3 = .ok (.bipush 57, 2) := by decide +kernel
theorem dX14_isDigit_5 : decode cX14_isDigit 5 = .ok (.invokestatic 72, 3) := by decide +kernel
theorem dX14_isDigit_8 : decode cX14_isDigit 8 = .ok (.ireturn, 1) := by decide +kernel
theorem dX14_byteAt_0 : decode cX14_byteAt 0 = .ok (.iload_n 1, 1) := by decide +kernel
theorem dX14_byteAt_1 : decode cX14_byteAt 1 = .ok (.aload_n 0, 1) := by decide +kernel
theorem dX14_byteAt_2 : decode cX14_byteAt 2 = .ok (.getfield 76, 3) := by decide +kernel
theorem dX14_byteAt_5 : decode cX14_byteAt 5 = .ok (.if_icmp .ge 12, 3) := by decide +kernel
theorem dX14_byteAt_8 : decode cX14_byteAt 8 = .ok (.aload_n 0, 1) := by decide +kernel
theorem dX14_byteAt_9 : decode cX14_byteAt 9 = .ok (.getfield 9, 3) := by decide +kernel
theorem dX14_byteAt_12 : decode cX14_byteAt 12 = .ok (.iload_n 1, 1) := by decide +kernel
theorem dX14_byteAt_13 : decode cX14_byteAt 13 = .ok (.iaload, 1) := by decide +kernel
theorem dX14_byteAt_14 : decode cX14_byteAt 14 = .ok (.goto 4, 3) := by decide +kernel
theorem dX14_byteAt_17 : decode cX14_byteAt 17 = .ok (.iconst (-1), 1) := by decide +kernel
theorem dX14_byteAt_18 : decode cX14_byteAt 18 = .ok (.ireturn, 1) := by decide +kernel
theorem dX14_isWord_0 : decode cX14_isWord 0 = .ok (.aload_n 3, 1) := by decide +kernel
theorem dX14_isWord_1 : decode cX14_isWord 1 = .ok (.invokevirtual 79, 3) := by decide +kernel
theorem dX14_isWord_4 : decode cX14_isWord 4 = .ok (.iload_n 2, 1) := by decide +kernel
theorem dX14_isWord_5 : decode cX14_isWord 5 = .ok (.if_icmp .eq 5, 3) := by decide +kernel
theorem dX14_isWord_8 : decode cX14_isWord 8 = .ok (.iconst 0, 1) := by decide +kernel
theorem dX14_isWord_9 : decode cX14_isWord 9 = .ok (.ireturn, 1) := by decide +kernel
theorem dX14_isWord_10 : decode cX14_isWord 10 = .ok (.iconst 0, 1) := by decide +kernel
theorem dX14_isWord_11 : decode cX14_isWord 11 = .ok (.istore 4, 2) := by decide +kernel
theorem dX14_isWord_13 : decode cX14_isWord 13 = .ok (.iload 4, 2) := by decide +kernel
theorem dX14_isWord_15 : decode cX14_isWord 15 = .ok (.iload_n 2, 1) := by decide +kernel
theorem dX14_isWord_16 : decode cX14_isWord 16 = .ok (.if_icmp .ge 29, 3) := by decide +kernel
theorem dX14_isWord_19 : decode cX14_isWord 19 = .ok (.aload_n 3, 1) := by decide +kernel
theorem dX14_isWord_20 : decode cX14_isWord 20 = .ok (.iload 4, 2) := by decide +kernel
theorem dX14_isWord_22 : decode cX14_isWord 22 = .ok (.invokevirtual 84, 3) := by decide +kernel
theorem dX14_isWord_25 : decode cX14_isWord 25 = .ok (.aload_n 0, 1) := by decide +kernel
theorem dX14_isWord_26 : decode cX14_isWord 26 = .ok (.getfield 9, 3) := by decide +kernel
theorem dX14_isWord_29 : decode cX14_isWord 29 = .ok (.iload_n 1, 1) := by decide +kernel
theorem dX14_isWord_30 : decode cX14_isWord 30 = .ok (.iload 4, 2) := by decide +kernel
theorem dX14_isWord_32 : decode cX14_isWord 32 = .ok (.iadd, 1) := by decide +kernel
theorem dX14_isWord_33 : decode cX14_isWord 33 = .ok (.iaload, 1) := by decide +kernel
theorem dX14_isWord_34 : decode cX14_isWord 34 = .ok (.if_icmp .eq 5, 3) := by decide +kernel
theorem dX14_isWord_37 : decode cX14_isWord 37 = .ok (.iconst 0, 1) := by decide +kernel
theorem dX14_isWord_38 : decode cX14_isWord 38 = .ok (.ireturn, 1) := by decide +kernel
theorem dX14_isWord_39 : decode cX14_isWord 39 = .ok (.iinc 4 1, 3) := by decide +kernel
theorem dX14_isWord_42 : decode cX14_isWord 42 = .ok (.goto (-29), 3) := by decide +kernel
theorem dX14_isWord_45 : decode cX14_isWord 45 = .ok (.iconst 1, 1) := by decide +kernel
theorem dX14_isWord_46 : decode cX14_isWord 46 = .ok (.ireturn, 1) := by decide +kernel
theorem dX14_keyword_0 : decode cX14_keyword 0 = .ok (.iconst 0, 1) := by decide +kernel
theorem dX14_keyword_1 : decode cX14_keyword 1 = .ok (.istore_n 3, 1) := by decide +kernel
theorem dX14_keyword_2 : decode cX14_keyword 2 = .ok (.iload_n 3, 1) := by decide +kernel
theorem dX14_keyword_3 : decode cX14_keyword 3 = .ok (.getstatic 88, 3) := by decide +kernel
theorem dX14_keyword_6 : decode cX14_keyword 6 = .ok (.arraylength, 1) := by decide +kernel
theorem dX14_keyword_7 : decode cX14_keyword 7 = .ok (.if_icmp .ge 25, 3) := by decide +kernel
theorem dX14_keyword_10 : decode cX14_keyword 10 = .ok (.aload_n 0, 1) := by decide +kernel
theorem dX14_keyword_11 : decode cX14_keyword 11 = .ok (.iload_n 1, 1) := by decide +kernel
theorem dX14_keyword_12 : decode cX14_keyword 12 = .ok (.iload_n 2, 1) := by decide +kernel
theorem dX14_keyword_13 : decode cX14_keyword 13 = .ok (.getstatic 88, 3) := by decide +kernel
theorem dX14_keyword_16 : decode cX14_keyword 16 = .ok (.iload_n 3, 1) := by decide +kernel
theorem dX14_keyword_17 : decode cX14_keyword 17 = .ok (.aaload, 1) := by decide +kernel
theorem dX14_keyword_18 : decode cX14_keyword 18 = .ok (.invokevirtual 92, 3) := by decide +kernel
theorem dX14_keyword_21 : decode cX14_keyword 21 = .ok (.ifCond .eq 5, 3) := by decide +kernel
theorem dX14_keyword_24 : decode cX14_keyword 24 = .ok (.iload_n 3, 1) := by decide +kernel
theorem dX14_keyword_25 : decode cX14_keyword 25 = .ok (.ireturn, 1) := by decide +kernel
theorem dX14_keyword_26 : decode cX14_keyword 26 = .ok (.iinc 3 1, 3) := by decide +kernel
theorem dX14_keyword_29 : decode cX14_keyword 29 = .ok (.goto (-27), 3) := by decide +kernel
theorem dX14_keyword_32 : decode cX14_keyword 32 = .ok (.iload_n 2, 1) := by decide +kernel
theorem dX14_keyword_33 : decode cX14_keyword 33 = .ok (.bipush 10, 2) := by decide +kernel
theorem dX14_keyword_35 : decode cX14_keyword 35 = .ok (.if_icmp .le 8, 3) := by decide +kernel
theorem dX14_keyword_38 : decode cX14_keyword 38 = .ok (.bipush 42, 2) := by decide +kernel
theorem dX14_keyword_40 : decode cX14_keyword 40 = .ok (.goto 5, 3) := by decide +kernel
theorem dX14_keyword_43 : decode cX14_keyword 43 = .ok (.bipush 40, 2) := by decide +kernel
theorem dX14_keyword_45 : decode cX14_keyword 45 = .ok (.ireturn, 1) := by decide +kernel
theorem dX14_symbol_0 : decode cX14_symbol 0 = .ok (.iload_n 0, 1) := by decide +kernel
theorem dX14_symbol_1 : decode cX14_symbol 1 = .ok (.tableswitch 270 40 93 #[231, 234, 255, 249, 246, 252, 270, 258, 270, 270, 270, 270, 270, 270, 270, 270, 270, 270, 270, 243, 261, 267, 264, 270, 270, 270, 270, 270, 270, 270, 270, 270, 270, 270, 270, 270, 270, 270, 270, 270, 270, 270, 270, 270, 270, 270, 270, 270, 270, 270, 270, 237, 270, 240], 231) := by decide +kernel
theorem dX14_symbol_232 : decode cX14_symbol 232 = .ok (.bipush 59, 2) := by decide +kernel
theorem dX14_symbol_234 : decode cX14_symbol 234 = .ok (.ireturn, 1) := by decide +kernel
theorem dX14_symbol_235 : decode cX14_symbol 235 = .ok (.bipush 60, 2) := by decide +kernel
theorem dX14_symbol_237 : decode cX14_symbol 237 = .ok (.ireturn, 1) := by decide +kernel
theorem dX14_symbol_238 : decode cX14_symbol 238 = .ok (.bipush 61, 2) := by decide +kernel
theorem dX14_symbol_240 : decode cX14_symbol 240 = .ok (.ireturn, 1) := by decide +kernel
theorem dX14_symbol_241 : decode cX14_symbol 241 = .ok (.bipush 62, 2) := by decide +kernel
theorem dX14_symbol_243 : decode cX14_symbol 243 = .ok (.ireturn, 1) := by decide +kernel
theorem dX14_symbol_244 : decode cX14_symbol 244 = .ok (.bipush 63, 2) := by decide +kernel
theorem dX14_symbol_246 : decode cX14_symbol 246 = .ok (.ireturn, 1) := by decide +kernel
theorem dX14_symbol_247 : decode cX14_symbol 247 = .ok (.bipush 64, 2) := by decide +kernel
theorem dX14_symbol_249 : decode cX14_symbol 249 = .ok (.ireturn, 1) := by decide +kernel
theorem dX14_symbol_250 : decode cX14_symbol 250 = .ok (.bipush 50, 2) := by decide +kernel
theorem dX14_symbol_252 : decode cX14_symbol 252 = .ok (.ireturn, 1) := by decide +kernel
theorem dX14_symbol_253 : decode cX14_symbol 253 = .ok (.bipush 51, 2) := by decide +kernel
theorem dX14_symbol_255 : decode cX14_symbol 255 = .ok (.ireturn, 1) := by decide +kernel
theorem dX14_symbol_256 : decode cX14_symbol 256 = .ok (.bipush 52, 2) := by decide +kernel
theorem dX14_symbol_258 : decode cX14_symbol 258 = .ok (.ireturn, 1) := by decide +kernel
theorem dX14_symbol_259 : decode cX14_symbol 259 = .ok (.bipush 53, 2) := by decide +kernel
theorem dX14_symbol_261 : decode cX14_symbol 261 = .ok (.ireturn, 1) := by decide +kernel
theorem dX14_symbol_262 : decode cX14_symbol 262 = .ok (.bipush 54, 2) := by decide +kernel
theorem dX14_symbol_264 : decode cX14_symbol 264 = .ok (.ireturn, 1) := by decide +kernel
theorem dX14_symbol_265 : decode cX14_symbol 265 = .ok (.bipush 55, 2) := by decide +kernel
theorem dX14_symbol_267 : decode cX14_symbol 267 = .ok (.ireturn, 1) := by decide +kernel
theorem dX14_symbol_268 : decode cX14_symbol 268 = .ok (.bipush 56, 2) := by decide +kernel
theorem dX14_symbol_270 : decode cX14_symbol 270 = .ok (.ireturn, 1) := by decide +kernel
theorem dX14_symbol_271 : decode cX14_symbol 271 = .ok (.bipush 42, 2) := by decide +kernel
theorem dX14_symbol_273 : decode cX14_symbol 273 = .ok (.ireturn, 1) := by decide +kernel
theorem dX14_read_0 : decode cX14_read 0 = .ok (.aload_n 0, 1) := by decide +kernel
theorem dX14_read_1 : decode cX14_read 1 = .ok (.getfield 9, 3) := by decide +kernel
theorem dX14_read_4 : decode cX14_read 4 = .ok (.iload_n 1, 1) := by decide +kernel
theorem dX14_read_5 : decode cX14_read 5 = .ok (.iaload, 1) := by decide +kernel
theorem dX14_read_6 : decode cX14_read 6 = .ok (.istore_n 3, 1) := by decide +kernel
theorem dX14_read_7 : decode cX14_read 7 = .ok (.iload_n 1, 1) := by decide +kernel
theorem dX14_read_8 : decode cX14_read 8 = .ok (.iconst 1, 1) := by decide +kernel
theorem dX14_read_9 : decode cX14_read 9 = .ok (.iadd, 1) := by decide +kernel
theorem dX14_read_10 : decode cX14_read 10 = .ok (.istore 4, 2) := by decide +kernel
theorem dX14_read_12 : decode cX14_read 12 = .ok (.aload_n 0, 1) := by decide +kernel
theorem dX14_read_13 : decode cX14_read 13 = .ok (.getfield 23, 3) := by decide +kernel
theorem dX14_read_16 : decode cX14_read 16 = .ok (.iload_n 2, 1) := by decide +kernel
theorem dX14_read_17 : decode cX14_read 17 = .ok (.iload_n 1, 1) := by decide +kernel
theorem dX14_read_18 : decode cX14_read 18 = .ok (.iastore, 1) := by decide +kernel
theorem dX14_read_19 : decode cX14_read 19 = .ok (.iload_n 3, 1) := by decide +kernel
theorem dX14_read_20 : decode cX14_read 20 = .ok (.invokestatic 96, 3) := by decide +kernel
theorem dX14_read_23 : decode cX14_read 23 = .ok (.ifCond .eq 51, 3) := by decide +kernel
theorem dX14_read_26 : decode cX14_read 26 = .ok (.aload_n 0, 1) := by decide +kernel
theorem dX14_read_27 : decode cX14_read 27 = .ok (.iload 4, 2) := by decide +kernel
theorem dX14_read_29 : decode cX14_read 29 = .ok (.invokevirtual 100, 3) := by decide +kernel
theorem dX14_read_32 : decode cX14_read 32 = .ok (.invokestatic 96, 3) := by decide +kernel
theorem dX14_read_35 : decode cX14_read 35 = .ok (.ifCond .ne 15, 3) := by decide +kernel
theorem dX14_read_38 : decode cX14_read 38 = .ok (.aload_n 0, 1) := by decide +kernel
theorem dX14_read_39 : decode cX14_read 39 = .ok (.iload 4, 2) := by decide +kernel
theorem dX14_read_41 : decode cX14_read 41 = .ok (.invokevirtual 100, 3) := by decide +kernel
theorem dX14_read_44 : decode cX14_read 44 = .ok (.invokestatic 104, 3) := by decide +kernel
theorem dX14_read_47 : decode cX14_read 47 = .ok (.ifCond .eq 9, 3) := by decide +kernel
theorem dX14_read_50 : decode cX14_read 50 = .ok (.iinc 4 1, 3) := by decide +kernel
theorem dX14_read_53 : decode cX14_read 53 = .ok (.goto (-27), 3) := by decide +kernel
theorem dX14_read_56 : decode cX14_read 56 = .ok (.aload_n 0, 1) := by decide +kernel
theorem dX14_read_57 : decode cX14_read 57 = .ok (.getfield 17, 3) := by decide +kernel
theorem dX14_read_60 : decode cX14_read 60 = .ok (.iload_n 2, 1) := by decide +kernel
theorem dX14_read_61 : decode cX14_read 61 = .ok (.aload_n 0, 1) := by decide +kernel
theorem dX14_read_62 : decode cX14_read 62 = .ok (.iload_n 1, 1) := by decide +kernel
theorem dX14_read_63 : decode cX14_read 63 = .ok (.iload 4, 2) := by decide +kernel
theorem dX14_read_65 : decode cX14_read 65 = .ok (.iload_n 1, 1) := by decide +kernel
theorem dX14_read_66 : decode cX14_read 66 = .ok (.isub, 1) := by decide +kernel
theorem dX14_read_67 : decode cX14_read 67 = .ok (.invokevirtual 107, 3) := by decide +kernel
theorem dX14_read_70 : decode cX14_read 70 = .ok (.iastore, 1) := by decide +kernel
theorem dX14_read_71 : decode cX14_read 71 = .ok (.goto 168, 3) := by decide +kernel
theorem dX14_read_74 : decode cX14_read 74 = .ok (.iload_n 3, 1) := by decide +kernel
theorem dX14_read_75 : decode cX14_read 75 = .ok (.invokestatic 104, 3) := by decide +kernel
theorem dX14_read_78 : decode cX14_read 78 = .ok (.ifCond .eq 91, 3) := by decide +kernel
theorem dX14_read_81 : decode cX14_read 81 = .ok (.iload_n 3, 1) := by decide +kernel
theorem dX14_read_82 : decode cX14_read 82 = .ok (.bipush 48, 2) := by decide +kernel
theorem dX14_read_84 : decode cX14_read 84 = .ok (.isub, 1) := by decide +kernel
theorem dX14_read_85 : decode cX14_read 85 = .ok (.istore 5, 2) := by decide +kernel
theorem dX14_read_87 : decode cX14_read 87 = .ok (.aload_n 0, 1) := by decide +kernel
theorem dX14_read_88 : decode cX14_read 88 = .ok (.iload 4, 2) := by decide +kernel
theorem dX14_read_90 : decode cX14_read 90 = .ok (.invokevirtual 100, 3) := by decide +kernel
theorem dX14_read_93 : decode cX14_read 93 = .ok (.invokestatic 104, 3) := by decide +kernel
theorem dX14_read_96 : decode cX14_read 96 = .ok (.ifCond .eq 40, 3) := by decide +kernel
theorem dX14_read_99 : decode cX14_read 99 = .ok (.iload 4, 2) := by decide +kernel
theorem dX14_read_101 : decode cX14_read 101 = .ok (.iload_n 1, 1) := by decide +kernel
theorem dX14_read_102 : decode cX14_read 102 = .ok (.isub, 1) := by decide +kernel
theorem dX14_read_103 : decode cX14_read 103 = .ok (.bipush 7, 2) := by decide +kernel
theorem dX14_read_105 : decode cX14_read 105 = .ok (.if_icmp .ge 21, 3) := by decide +kernel
theorem dX14_read_108 : decode cX14_read 108 = .ok (.bipush 10, 2) := by decide +kernel
theorem dX14_read_110 : decode cX14_read 110 = .ok (.iload 5, 2) := by decide +kernel
theorem dX14_read_112 : decode cX14_read 112 = .ok (.imul, 1) := by decide +kernel
theorem dX14_read_113 : decode cX14_read 113 = .ok (.aload_n 0, 1) := by decide +kernel
theorem dX14_read_114 : decode cX14_read 114 = .ok (.iload 4, 2) := by decide +kernel
theorem dX14_read_116 : decode cX14_read 116 = .ok (.invokevirtual 100, 3) := by decide +kernel
theorem dX14_read_119 : decode cX14_read 119 = .ok (.iadd, 1) := by decide +kernel
theorem dX14_read_120 : decode cX14_read 120 = .ok (.bipush 48, 2) := by decide +kernel
theorem dX14_read_122 : decode cX14_read 122 = .ok (.isub, 1) := by decide +kernel
theorem dX14_read_123 : decode cX14_read 123 = .ok (.goto 5, 3) := by decide +kernel
theorem dX14_read_126 : decode cX14_read 126 = .ok (.iload 5, 2) := by decide +kernel
theorem dX14_read_128 : decode cX14_read 128 = .ok (.istore 5, 2) := by decide +kernel
theorem dX14_read_130 : decode cX14_read 130 = .ok (.iinc 4 1, 3) := by decide +kernel
theorem dX14_read_133 : decode cX14_read 133 = .ok (.goto (-46), 3) := by decide +kernel
theorem dX14_read_136 : decode cX14_read 136 = .ok (.aload_n 0, 1) := by decide +kernel
theorem dX14_read_137 : decode cX14_read 137 = .ok (.getfield 20, 3) := by decide +kernel
theorem dX14_read_140 : decode cX14_read 140 = .ok (.iload_n 2, 1) := by decide +kernel
theorem dX14_read_141 : decode cX14_read 141 = .ok (.iload 5, 2) := by decide +kernel
theorem dX14_read_143 : decode cX14_read 143 = .ok (.iastore, 1) := by decide +kernel
theorem dX14_read_144 : decode cX14_read 144 = .ok (.aload_n 0, 1) := by decide +kernel
theorem dX14_read_145 : decode cX14_read 145 = .ok (.getfield 17, 3) := by decide +kernel
theorem dX14_read_148 : decode cX14_read 148 = .ok (.iload_n 2, 1) := by decide +kernel
theorem dX14_read_149 : decode cX14_read 149 = .ok (.iload 4, 2) := by decide +kernel
theorem dX14_read_151 : decode cX14_read 151 = .ok (.iload_n 1, 1) := by decide +kernel
theorem dX14_read_152 : decode cX14_read 152 = .ok (.isub, 1) := by decide +kernel
theorem dX14_read_153 : decode cX14_read 153 = .ok (.bipush 6, 2) := by decide +kernel
theorem dX14_read_155 : decode cX14_read 155 = .ok (.if_icmp .le 8, 3) := by decide +kernel
theorem dX14_read_158 : decode cX14_read 158 = .ok (.bipush 42, 2) := by decide +kernel
theorem dX14_read_160 : decode cX14_read 160 = .ok (.goto 5, 3) := by decide +kernel
theorem dX14_read_163 : decode cX14_read 163 = .ok (.bipush 41, 2) := by decide +kernel
theorem dX14_read_165 : decode cX14_read 165 = .ok (.iastore, 1) := by decide +kernel
theorem dX14_read_166 : decode cX14_read 166 = .ok (.goto 73, 3) := by decide +kernel
theorem dX14_read_169 : decode cX14_read 169 = .ok (.aload_n 0, 1) := by decide +kernel
theorem dX14_read_170 : decode cX14_read 170 = .ok (.getfield 17, 3) := by decide +kernel
theorem dX14_read_173 : decode cX14_read 173 = .ok (.iload_n 2, 1) := by decide +kernel
theorem dX14_read_174 : decode cX14_read 174 = .ok (.iload_n 3, 1) := by decide +kernel
theorem dX14_read_175 : decode cX14_read 175 = .ok (.invokestatic 110, 3) := by decide +kernel
theorem dX14_read_178 : decode cX14_read 178 = .ok (.iastore, 1) := by decide +kernel
theorem dX14_read_179 : decode cX14_read 179 = .ok (.aload_n 0, 1) := by decide +kernel
theorem dX14_read_180 : decode cX14_read 180 = .ok (.getfield 17, 3) := by decide +kernel
theorem dX14_read_183 : decode cX14_read 183 = .ok (.iload_n 2, 1) := by decide +kernel
theorem dX14_read_184 : decode cX14_read 184 = .ok (.iaload, 1) := by decide +kernel
theorem dX14_read_185 : decode cX14_read 185 = .ok (.bipush 54, 2) := by decide +kernel
theorem dX14_read_187 : decode cX14_read 187 = .ok (.if_icmp .eq 14, 3) := by decide +kernel
theorem dX14_read_190 : decode cX14_read 190 = .ok (.aload_n 0, 1) := by decide +kernel
theorem dX14_read_191 : decode cX14_read 191 = .ok (.getfield 17, 3) := by decide +kernel
theorem dX14_read_194 : decode cX14_read 194 = .ok (.iload_n 2, 1) := by decide +kernel
theorem dX14_read_195 : decode cX14_read 195 = .ok (.iaload, 1) := by decide +kernel
theorem dX14_read_196 : decode cX14_read 196 = .ok (.bipush 55, 2) := by decide +kernel
theorem dX14_read_198 : decode cX14_read 198 = .ok (.if_icmp .ne 41, 3) := by decide +kernel
theorem dX14_read_201 : decode cX14_read 201 = .ok (.aload_n 0, 1) := by decide +kernel
theorem dX14_read_202 : decode cX14_read 202 = .ok (.iload 4, 2) := by decide +kernel
theorem dX14_read_204 : decode cX14_read 204 = .ok (.invokevirtual 100, 3) := by decide +kernel
theorem dX14_read_207 : decode cX14_read 207 = .ok (.bipush 61, 2) := by decide +kernel
theorem dX14_read_209 : decode cX14_read 209 = .ok (.if_icmp .ne 30, 3) := by decide +kernel
theorem dX14_read_212 : decode cX14_read 212 = .ok (.aload_n 0, 1) := by decide +kernel
theorem dX14_read_213 : decode cX14_read 213 = .ok (.getfield 17, 3) := by decide +kernel
theorem dX14_read_216 : decode cX14_read 216 = .ok (.iload_n 2, 1) := by decide +kernel
theorem dX14_read_217 : decode cX14_read 217 = .ok (.aload_n 0, 1) := by decide +kernel
theorem dX14_read_218 : decode cX14_read 218 = .ok (.getfield 17, 3) := by decide +kernel
theorem dX14_read_221 : decode cX14_read 221 = .ok (.iload_n 2, 1) := by decide +kernel
theorem dX14_read_222 : decode cX14_read 222 = .ok (.iaload, 1) := by decide +kernel
theorem dX14_read_223 : decode cX14_read 223 = .ok (.bipush 54, 2) := by decide +kernel
theorem dX14_read_225 : decode cX14_read 225 = .ok (.if_icmp .ne 8, 3) := by decide +kernel
theorem dX14_read_228 : decode cX14_read 228 = .ok (.bipush 57, 2) := by decide +kernel
theorem dX14_read_230 : decode cX14_read 230 = .ok (.goto 5, 3) := by decide +kernel
theorem dX14_read_233 : decode cX14_read 233 = .ok (.bipush 58, 2) := by decide +kernel
theorem dX14_read_235 : decode cX14_read 235 = .ok (.iastore, 1) := by decide +kernel
theorem dX14_read_236 : decode cX14_read 236 = .ok (.iinc 4 1, 3) := by decide +kernel
theorem dX14_read_239 : decode cX14_read 239 = .ok (.aload_n 0, 1) := by decide +kernel
theorem dX14_read_240 : decode cX14_read 240 = .ok (.getfield 26, 3) := by decide +kernel
theorem dX14_read_243 : decode cX14_read 243 = .ok (.iload_n 2, 1) := by decide +kernel
theorem dX14_read_244 : decode cX14_read 244 = .ok (.iload 4, 2) := by decide +kernel
theorem dX14_read_246 : decode cX14_read 246 = .ok (.iload_n 1, 1) := by decide +kernel
theorem dX14_read_247 : decode cX14_read 247 = .ok (.isub, 1) := by decide +kernel
theorem dX14_read_248 : decode cX14_read 248 = .ok (.iastore, 1) := by decide +kernel
theorem dX14_read_249 : decode cX14_read 249 = .ok (.iload 4, 2) := by decide +kernel
theorem dX14_read_251 : decode cX14_read 251 = .ok (.ireturn, 1) := by decide +kernel
theorem dX14_skip_0 : decode cX14_skip 0 = .ok (.iload_n 1, 1) := by decide +kernel
theorem dX14_skip_1 : decode cX14_skip 1 = .ok (.istore_n 2, 1) := by decide +kernel
theorem dX14_skip_2 : decode cX14_skip 2 = .ok (.aload_n 0, 1) := by decide +kernel
theorem dX14_skip_3 : decode cX14_skip 3 = .ok (.iload_n 2, 1) := by decide +kernel
theorem dX14_skip_4 : decode cX14_skip 4 = .ok (.invokevirtual 100, 3) := by decide +kernel
theorem dX14_skip_7 : decode cX14_skip 7 = .ok (.bipush 32, 2) := by decide +kernel
theorem dX14_skip_9 : decode cX14_skip 9 = .ok (.if_icmp .eq 13, 3) := by decide +kernel
theorem dX14_skip_12 : decode cX14_skip 12 = .ok (.aload_n 0, 1) := by decide +kernel
theorem dX14_skip_13 : decode cX14_skip 13 = .ok (.iload_n 2, 1) := by decide +kernel
theorem dX14_skip_14 : decode cX14_skip 14 = .ok (.invokevirtual 100, 3) := by decide +kernel
theorem dX14_skip_17 : decode cX14_skip 17 = .ok (.bipush 10, 2) := by decide +kernel
theorem dX14_skip_19 : decode cX14_skip 19 = .ok (.if_icmp .ne 9, 3) := by decide +kernel
theorem dX14_skip_22 : decode cX14_skip 22 = .ok (.iinc 2 1, 3) := by decide +kernel
theorem dX14_skip_25 : decode cX14_skip 25 = .ok (.goto (-23), 3) := by decide +kernel
theorem dX14_skip_28 : decode cX14_skip 28 = .ok (.iload_n 2, 1) := by decide +kernel
theorem dX14_skip_29 : decode cX14_skip 29 = .ok (.ireturn, 1) := by decide +kernel
theorem dX14_readAll_0 : decode cX14_readAll 0 = .ok (.aload_n 0, 1) := by decide +kernel
theorem dX14_readAll_1 : decode cX14_readAll 1 = .ok (.iconst 0, 1) := by decide +kernel
theorem dX14_readAll_2 : decode cX14_readAll 2 = .ok (.invokevirtual 113, 3) := by decide +kernel
theorem dX14_readAll_5 : decode cX14_readAll 5 = .ok (.istore_n 1, 1) := by decide +kernel
theorem dX14_readAll_6 : decode cX14_readAll 6 = .ok (.iconst 0, 1) := by decide +kernel
theorem dX14_readAll_7 : decode cX14_readAll 7 = .ok (.istore_n 2, 1) := by decide +kernel
theorem dX14_readAll_8 : decode cX14_readAll 8 = .ok (.iload_n 1, 1) := by decide +kernel
theorem dX14_readAll_9 : decode cX14_readAll 9 = .ok (.aload_n 0, 1) := by decide +kernel
theorem dX14_readAll_10 : decode cX14_readAll 10 = .ok (.getfield 76, 3) := by decide +kernel
theorem dX14_readAll_13 : decode cX14_readAll 13 = .ok (.if_icmp .ge 52, 3) := by decide +kernel
theorem dX14_readAll_16 : decode cX14_readAll 16 = .ok (.iload_n 2, 1) := by decide +kernel
theorem dX14_readAll_17 : decode cX14_readAll 17 = .ok (.ifCond .eq 16, 3) := by decide +kernel
theorem dX14_readAll_20 : decode cX14_readAll 20 = .ok (.aload_n 0, 1) := by decide +kernel
theorem dX14_readAll_21 : decode cX14_readAll 21 = .ok (.getfield 17, 3) := by decide +kernel
theorem dX14_readAll_24 : decode cX14_readAll 24 = .ok (.iload_n 2, 1) := by decide +kernel
theorem dX14_readAll_25 : decode cX14_readAll 25 = .ok (.iconst 1, 1) := by decide +kernel
theorem dX14_readAll_26 : decode cX14_readAll 26 = .ok (.isub, 1) := by decide +kernel
theorem dX14_readAll_27 : decode cX14_readAll 27 = .ok (.iaload, 1) := by decide +kernel
theorem dX14_readAll_28 : decode cX14_readAll 28 = .ok (.bipush 42, 2) := by decide +kernel
theorem dX14_readAll_30 : decode cX14_readAll 30 = .ok (.if_icmp .eq 35, 3) := by decide +kernel
theorem dX14_readAll_33 : decode cX14_readAll 33 = .ok (.aload_n 0, 1) := by decide +kernel
theorem dX14_readAll_34 : decode cX14_readAll 34 = .ok (.aload_n 0, 1) := by decide +kernel
theorem dX14_readAll_35 : decode cX14_readAll 35 = .ok (.iload_n 1, 1) := by decide +kernel
theorem dX14_readAll_36 : decode cX14_readAll 36 = .ok (.iload_n 2, 1) := by decide +kernel
theorem dX14_readAll_37 : decode cX14_readAll 37 = .ok (.invokevirtual 116, 3) := by decide +kernel
theorem dX14_readAll_40 : decode cX14_readAll 40 = .ok (.invokevirtual 113, 3) := by decide +kernel
theorem dX14_readAll_43 : decode cX14_readAll 43 = .ok (.istore_n 1, 1) := by decide +kernel
theorem dX14_readAll_44 : decode cX14_readAll 44 = .ok (.iload_n 2, 1) := by decide +kernel
theorem dX14_readAll_45 : decode cX14_readAll 45 = .ok (.sipush 400, 3) := by decide +kernel
theorem dX14_readAll_48 : decode cX14_readAll 48 = .ok (.if_icmp .ne 11, 3) := by decide +kernel
theorem dX14_readAll_51 : decode cX14_readAll 51 = .ok (.aload_n 0, 1) := by decide +kernel
theorem dX14_readAll_52 : decode cX14_readAll 52 = .ok (.getfield 17, 3) := by decide +kernel
theorem dX14_readAll_55 : decode cX14_readAll 55 = .ok (.iload_n 2, 1) := by decide +kernel
theorem dX14_readAll_56 : decode cX14_readAll 56 = .ok (.bipush 42, 2) := by decide +kernel
theorem dX14_readAll_58 : decode cX14_readAll 58 = .ok (.iastore, 1) := by decide +kernel
theorem dX14_readAll_59 : decode cX14_readAll 59 = .ok (.iinc 2 1, 3) := by decide +kernel
theorem dX14_readAll_62 : decode cX14_readAll 62 = .ok (.goto (-54), 3) := by decide +kernel
theorem dX14_readAll_65 : decode cX14_readAll 65 = .ok (.aload_n 0, 1) := by decide +kernel
theorem dX14_readAll_66 : decode cX14_readAll 66 = .ok (.getfield 17, 3) := by decide +kernel
theorem dX14_readAll_69 : decode cX14_readAll 69 = .ok (.iload_n 2, 1) := by decide +kernel
theorem dX14_readAll_70 : decode cX14_readAll 70 = .ok (.bipush 43, 2) := by decide +kernel
theorem dX14_readAll_72 : decode cX14_readAll 72 = .ok (.iastore, 1) := by decide +kernel
theorem dX14_readAll_73 : decode cX14_readAll 73 = .ok (.aload_n 0, 1) := by decide +kernel
theorem dX14_readAll_74 : decode cX14_readAll 74 = .ok (.getfield 23, 3) := by decide +kernel
theorem dX14_readAll_77 : decode cX14_readAll 77 = .ok (.iload_n 2, 1) := by decide +kernel
theorem dX14_readAll_78 : decode cX14_readAll 78 = .ok (.aload_n 0, 1) := by decide +kernel
theorem dX14_readAll_79 : decode cX14_readAll 79 = .ok (.getfield 76, 3) := by decide +kernel
theorem dX14_readAll_82 : decode cX14_readAll 82 = .ok (.iastore, 1) := by decide +kernel
theorem dX14_readAll_83 : decode cX14_readAll 83 = .ok (.return_, 1) := by decide +kernel
theorem dX14_is_0 : decode cX14_is 0 = .ok (.aload_n 0, 1) := by decide +kernel
theorem dX14_is_1 : decode cX14_is 1 = .ok (.getfield 119, 3) := by decide +kernel
theorem dX14_is_4 : decode cX14_is 4 = .ok (.ifCond .ne 20, 3) := by decide +kernel
theorem dX14_is_7 : decode cX14_is 7 = .ok (.aload_n 0, 1) := by decide +kernel
theorem dX14_is_8 : decode cX14_is 8 = .ok (.getfield 17, 3) := by decide +kernel
theorem dX14_is_11 : decode cX14_is 11 = .ok (.aload_n 0, 1) := by decide +kernel
theorem dX14_is_12 : decode cX14_is 12 = .ok (.getfield 123, 3) := by decide +kernel
theorem dX14_is_15 : decode cX14_is 15 = .ok (.iaload, 1) := by decide +kernel
theorem dX14_is_16 : decode cX14_is 16 = .ok (.iload_n 1, 1) := by decide +kernel
theorem dX14_is_17 : decode cX14_is 17 = .ok (.if_icmp .ne 7, 3) := by decide +kernel
theorem dX14_is_20 : decode cX14_is 20 = .ok (.iconst 1, 1) := by decide +kernel
theorem dX14_is_21 : decode cX14_is 21 = .ok (.goto 4, 3) := by decide +kernel
theorem dX14_is_24 : decode cX14_is 24 = .ok (.iconst 0, 1) := by decide +kernel
theorem dX14_is_25 : decode cX14_is 25 = .ok (.ireturn, 1) := by decide +kernel
theorem dX14_wrong_0 : decode cX14_wrong 0 = .ok (.aload_n 0, 1) := by decide +kernel
theorem dX14_wrong_1 : decode cX14_wrong 1 = .ok (.getfield 119, 3) := by decide +kernel
theorem dX14_wrong_4 : decode cX14_wrong 4 = .ok (.ifCond .eq 4, 3) := by decide +kernel
theorem dX14_wrong_7 : decode cX14_wrong 7 = .ok (.return_, 1) := by decide +kernel
theorem dX14_wrong_8 : decode cX14_wrong 8 = .ok (.aload_n 0, 1) := by decide +kernel
theorem dX14_wrong_9 : decode cX14_wrong 9 = .ok (.iconst 1, 1) := by decide +kernel
theorem dX14_wrong_10 : decode cX14_wrong 10 = .ok (.putfield 119, 3) := by decide +kernel
theorem dX14_wrong_13 : decode cX14_wrong 13 = .ok (.aload_n 0, 1) := by decide +kernel
theorem dX14_wrong_14 : decode cX14_wrong 14 = .ok (.iconst 1, 1) := by decide +kernel
theorem dX14_wrong_15 : decode cX14_wrong 15 = .ok (.putfield 126, 3) := by decide +kernel
theorem dX14_wrong_18 : decode cX14_wrong 18 = .ok (.aload_n 0, 1) := by decide +kernel
theorem dX14_wrong_19 : decode cX14_wrong 19 = .ok (.aload_n 0, 1) := by decide +kernel
theorem dX14_wrong_20 : decode cX14_wrong 20 = .ok (.getfield 123, 3) := by decide +kernel
theorem dX14_wrong_23 : decode cX14_wrong 23 = .ok (.putfield 129, 3) := by decide +kernel
theorem dX14_wrong_26 : decode cX14_wrong 26 = .ok (.return_, 1) := by decide +kernel
theorem dX14_take_0 : decode cX14_take 0 = .ok (.aload_n 0, 1) := by decide +kernel
theorem dX14_take_1 : decode cX14_take 1 = .ok (.iload_n 1, 1) := by decide +kernel
theorem dX14_take_2 : decode cX14_take 2 = .ok (.invokevirtual 132, 3) := by decide +kernel
theorem dX14_take_5 : decode cX14_take 5 = .ok (.ifCond .eq 16, 3) := by decide +kernel
theorem dX14_take_8 : decode cX14_take 8 = .ok (.aload_n 0, 1) := by decide +kernel
theorem dX14_take_9 : decode cX14_take 9 = .ok (.dup, 1) := by decide +kernel
theorem dX14_take_10 : decode cX14_take 10 = .ok (.getfield 123, 3) := by decide +kernel
theorem dX14_take_13 : decode cX14_take 13 = .ok (.iconst 1, 1) := by decide +kernel
theorem dX14_take_14 : decode cX14_take 14 = .ok (.iadd, 1) := by decide +kernel
theorem dX14_take_15 : decode cX14_take 15 = .ok (.putfield 123, 3) := by decide +kernel
theorem dX14_take_18 : decode cX14_take 18 = .ok (.goto 7, 3) := by decide +kernel
theorem dX14_take_21 : decode cX14_take 21 = .ok (.aload_n 0, 1) := by decide +kernel
theorem dX14_take_22 : decode cX14_take 22 = .ok (.invokevirtual 135, 3) := by decide +kernel
theorem dX14_take_25 : decode cX14_take 25 = .ok (.return_, 1) := by decide +kernel
theorem dX14_takes_0 : decode cX14_takes 0 = .ok (.aload_n 0, 1) := by decide +kernel
theorem dX14_takes_1 : decode cX14_takes 1 = .ok (.iload_n 1, 1) := by decide +kernel
theorem dX14_takes_2 : decode cX14_takes 2 = .ok (.invokevirtual 132, 3) := by decide +kernel
theorem dX14_takes_5 : decode cX14_takes 5 = .ok (.ifCond .ne 5, 3) := by decide +kernel
theorem dX14_takes_8 : decode cX14_takes 8 = .ok (.iconst 0, 1) := by decide +kernel
theorem dX14_takes_9 : decode cX14_takes 9 = .ok (.ireturn, 1) := by decide +kernel
theorem dX14_takes_10 : decode cX14_takes 10 = .ok (.aload_n 0, 1) := by decide +kernel
theorem dX14_takes_11 : decode cX14_takes 11 = .ok (.dup, 1) := by decide +kernel
theorem dX14_takes_12 : decode cX14_takes 12 = .ok (.getfield 123, 3) := by decide +kernel
theorem dX14_takes_15 : decode cX14_takes 15 = .ok (.iconst 1, 1) := by decide +kernel
theorem dX14_takes_16 : decode cX14_takes 16 = .ok (.iadd, 1) := by decide +kernel
theorem dX14_takes_17 : decode cX14_takes 17 = .ok (.putfield 123, 3) := by decide +kernel
theorem dX14_takes_20 : decode cX14_takes 20 = .ok (.iconst 1, 1) := by decide +kernel
theorem dX14_takes_21 : decode cX14_takes 21 = .ok (.ireturn, 1) := by decide +kernel
theorem dX14_deeper_0 : decode cX14_deeper 0 = .ok (.aload_n 0, 1) := by decide +kernel
theorem dX14_deeper_1 : decode cX14_deeper 1 = .ok (.getfield 138, 3) := by decide +kernel
theorem dX14_deeper_4 : decode cX14_deeper 4 = .ok (.bipush 8, 2) := by decide +kernel
theorem dX14_deeper_6 : decode cX14_deeper 6 = .ok (.if_icmp .ne 10, 3) := by decide +kernel
theorem dX14_deeper_9 : decode cX14_deeper 9 = .ok (.aload_n 0, 1) := by decide +kernel
theorem dX14_deeper_10 : decode cX14_deeper 10 = .ok (.invokevirtual 135, 3) := by decide +kernel
theorem dX14_deeper_13 : decode cX14_deeper 13 = .ok (.goto 13, 3) := by decide +kernel
theorem dX14_deeper_16 : decode cX14_deeper 16 = .ok (.aload_n 0, 1) := by decide +kernel
theorem dX14_deeper_17 : decode cX14_deeper 17 = .ok (.dup, 1) := by decide +kernel
theorem dX14_deeper_18 : decode cX14_deeper 18 = .ok (.getfield 123, 3) := by decide +kernel
theorem dX14_deeper_21 : decode cX14_deeper 21 = .ok (.iconst 1, 1) := by decide +kernel
theorem dX14_deeper_22 : decode cX14_deeper 22 = .ok (.iadd, 1) := by decide +kernel
theorem dX14_deeper_23 : decode cX14_deeper 23 = .ok (.putfield 123, 3) := by decide +kernel
theorem dX14_deeper_26 : decode cX14_deeper 26 = .ok (.aload_n 0, 1) := by decide +kernel
theorem dX14_deeper_27 : decode cX14_deeper 27 = .ok (.dup, 1) := by decide +kernel
theorem dX14_deeper_28 : decode cX14_deeper 28 = .ok (.getfield 138, 3) := by decide +kernel
theorem dX14_deeper_31 : decode cX14_deeper 31 = .ok (.iconst 1, 1) := by decide +kernel
theorem dX14_deeper_32 : decode cX14_deeper 32 = .ok (.iadd, 1) := by decide +kernel
theorem dX14_deeper_33 : decode cX14_deeper 33 = .ok (.putfield 138, 3) := by decide +kernel
theorem dX14_deeper_36 : decode cX14_deeper 36 = .ok (.return_, 1) := by decide +kernel
theorem dX14_mark_0 : decode cX14_mark 0 = .ok (.aload_n 0, 1) := by decide +kernel
theorem dX14_mark_1 : decode cX14_mark 1 = .ok (.getfield 119, 3) := by decide +kernel
theorem dX14_mark_4 : decode cX14_mark 4 = .ok (.ifCond .ne 10, 3) := by decide +kernel
theorem dX14_mark_7 : decode cX14_mark 7 = .ok (.aload_n 0, 1) := by decide +kernel
theorem dX14_mark_8 : decode cX14_mark 8 = .ok (.getfield 126, 3) := by decide +kernel
theorem dX14_mark_11 : decode cX14_mark 11 = .ok (.ifCond .eq 4, 3) := by decide +kernel
theorem dX14_mark_14 : decode cX14_mark 14 = .ok (.return_, 1) := by decide +kernel
theorem dX14_mark_15 : decode cX14_mark 15 = .ok (.aload_n 0, 1) := by decide +kernel
theorem dX14_mark_16 : decode cX14_mark 16 = .ok (.iload_n 1, 1) := by decide +kernel
theorem dX14_mark_17 : decode cX14_mark 17 = .ok (.putfield 126, 3) := by decide +kernel
theorem dX14_mark_20 : decode cX14_mark 20 = .ok (.aload_n 0, 1) := by decide +kernel
theorem dX14_mark_21 : decode cX14_mark 21 = .ok (.aload_n 0, 1) := by decide +kernel
theorem dX14_mark_22 : decode cX14_mark 22 = .ok (.getfield 123, 3) := by decide +kernel
theorem dX14_mark_25 : decode cX14_mark 25 = .ok (.putfield 129, 3) := by decide +kernel
theorem dX14_mark_28 : decode cX14_mark 28 = .ok (.return_, 1) := by decide +kernel
theorem dX14_node_0 : decode cX14_node 0 = .ok (.aload_n 0, 1) := by decide +kernel
theorem dX14_node_1 : decode cX14_node 1 = .ok (.getfield 42, 3) := by decide +kernel
theorem dX14_node_4 : decode cX14_node 4 = .ok (.getfield 141, 3) := by decide +kernel
theorem dX14_node_7 : decode cX14_node 7 = .ok (.istore 4, 2) := by decide +kernel
theorem dX14_node_9 : decode cX14_node 9 = .ok (.aload_n 0, 1) := by decide +kernel
theorem dX14_node_10 : decode cX14_node 10 = .ok (.getfield 42, 3) := by decide +kernel
theorem dX14_node_13 : decode cX14_node 13 = .ok (.getfield 144, 3) := by decide +kernel
theorem dX14_node_16 : decode cX14_node 16 = .ok (.iload 4, 2) := by decide +kernel
theorem dX14_node_18 : decode cX14_node 18 = .ok (.iload_n 1, 1) := by decide +kernel
theorem dX14_node_19 : decode cX14_node 19 = .ok (.iastore, 1) := by decide +kernel
theorem dX14_node_20 : decode cX14_node 20 = .ok (.aload_n 0, 1) := by decide +kernel
theorem dX14_node_21 : decode cX14_node 21 = .ok (.getfield 42, 3) := by decide +kernel
theorem dX14_node_24 : decode cX14_node 24 = .ok (.getfield 147, 3) := by decide +kernel
theorem dX14_node_27 : decode cX14_node 27 = .ok (.iload 4, 2) := by decide +kernel
theorem dX14_node_29 : decode cX14_node 29 = .ok (.iload_n 2, 1) := by decide +kernel
theorem dX14_node_30 : decode cX14_node 30 = .ok (.iastore, 1) := by decide +kernel
theorem dX14_node_31 : decode cX14_node 31 = .ok (.aload_n 0, 1) := by decide +kernel
theorem dX14_node_32 : decode cX14_node 32 = .ok (.getfield 42, 3) := by decide +kernel
theorem dX14_node_35 : decode cX14_node 35 = .ok (.getfield 150, 3) := by decide +kernel
theorem dX14_node_38 : decode cX14_node 38 = .ok (.iload 4, 2) := by decide +kernel
theorem dX14_node_40 : decode cX14_node 40 = .ok (.iload_n 3, 1) := by decide +kernel
theorem dX14_node_41 : decode cX14_node 41 = .ok (.iastore, 1) := by decide +kernel
theorem dX14_node_42 : decode cX14_node 42 = .ok (.aload_n 0, 1) := by decide +kernel
theorem dX14_node_43 : decode cX14_node 43 = .ok (.getfield 42, 3) := by decide +kernel
theorem dX14_node_46 : decode cX14_node 46 = .ok (.dup, 1) := by decide +kernel
theorem dX14_node_47 : decode cX14_node 47 = .ok (.getfield 141, 3) := by decide +kernel
theorem dX14_node_50 : decode cX14_node 50 = .ok (.iconst 1, 1) := by decide +kernel
theorem dX14_node_51 : decode cX14_node 51 = .ok (.iadd, 1) := by decide +kernel
theorem dX14_node_52 : decode cX14_node 52 = .ok (.putfield 141, 3) := by decide +kernel
theorem dX14_node_55 : decode cX14_node 55 = .ok (.iload 4, 2) := by decide +kernel
theorem dX14_node_57 : decode cX14_node 57 = .ok (.ireturn, 1) := by decide +kernel
theorem dX14_isSameName_0 : decode cX14_isSameName 0 = .ok (.aload_n 0, 1) := by decide +kernel
theorem dX14_isSameName_1 : decode cX14_isSameName 1 = .ok (.getfield 26, 3) := by decide +kernel
theorem dX14_isSameName_4 : decode cX14_isSameName 4 = .ok (.iload_n 1, 1) := by decide +kernel
theorem dX14_isSameName_5 : decode cX14_isSameName 5 = .ok (.iaload, 1) := by decide +kernel
theorem dX14_isSameName_6 : decode cX14_isSameName 6 = .ok (.aload_n 0, 1) := by decide +kernel
theorem dX14_isSameName_7 : decode cX14_isSameName 7 = .ok (.getfield 26, 3) := by decide +kernel
theorem dX14_isSameName_10 : decode cX14_isSameName 10 = .ok (.iload_n 2, 1) := by decide +kernel
theorem dX14_isSameName_11 : decode cX14_isSameName 11 = .ok (.iaload, 1) := by decide +kernel
theorem dX14_isSameName_12 : decode cX14_isSameName 12 = .ok (.if_icmp .eq 5, 3) := by decide +kernel
theorem dX14_isSameName_15 : decode cX14_isSameName 15 = .ok (.iconst 0, 1) := by decide +kernel
theorem dX14_isSameName_16 : decode cX14_isSameName 16 = .ok (.ireturn, 1) := by decide +kernel
theorem dX14_isSameName_17 : decode cX14_isSameName 17 = .ok (.iconst 0, 1) := by decide +kernel
theorem dX14_isSameName_18 : decode cX14_isSameName 18 = .ok (.istore_n 3, 1) := by decide +kernel
theorem dX14_isSameName_19 : decode cX14_isSameName 19 = .ok (.iload_n 3, 1) := by decide +kernel
theorem dX14_isSameName_20 : decode cX14_isSameName 20 = .ok (.aload_n 0, 1) := by decide +kernel
theorem dX14_isSameName_21 : decode cX14_isSameName 21 = .ok (.getfield 26, 3) := by decide +kernel
theorem dX14_isSameName_24 : decode cX14_isSameName 24 = .ok (.iload_n 1, 1) := by decide +kernel
theorem dX14_isSameName_25 : decode cX14_isSameName 25 = .ok (.iaload, 1) := by decide +kernel
theorem dX14_isSameName_26 : decode cX14_isSameName 26 = .ok (.if_icmp .ge 40, 3) := by decide +kernel
theorem dX14_isSameName_29 : decode cX14_isSameName 29 = .ok (.aload_n 0, 1) := by decide +kernel
theorem dX14_isSameName_30 : decode cX14_isSameName 30 = .ok (.getfield 9, 3) := by decide +kernel
theorem dX14_isSameName_33 : decode cX14_isSameName 33 = .ok (.aload_n 0, 1) := by decide +kernel
theorem dX14_isSameName_34 : decode cX14_isSameName 34 = .ok (.getfield 23, 3) := by decide +kernel
theorem dX14_isSameName_37 : decode cX14_isSameName 37 = .ok (.iload_n 1, 1) := by decide +kernel
theorem dX14_isSameName_38 : decode cX14_isSameName 38 = .ok (.iaload, 1) := by decide +kernel
theorem dX14_isSameName_39 : decode cX14_isSameName 39 = .ok (.iload_n 3, 1) := by decide +kernel
theorem dX14_isSameName_40 : decode cX14_isSameName 40 = .ok (.iadd, 1) := by decide +kernel
theorem dX14_isSameName_41 : decode cX14_isSameName 41 = .ok (.iaload, 1) := by decide +kernel
theorem dX14_isSameName_42 : decode cX14_isSameName 42 = .ok (.aload_n 0, 1) := by decide +kernel
theorem dX14_isSameName_43 : decode cX14_isSameName 43 = .ok (.getfield 9, 3) := by decide +kernel
theorem dX14_isSameName_46 : decode cX14_isSameName 46 = .ok (.aload_n 0, 1) := by decide +kernel
theorem dX14_isSameName_47 : decode cX14_isSameName 47 = .ok (.getfield 23, 3) := by decide +kernel
theorem dX14_isSameName_50 : decode cX14_isSameName 50 = .ok (.iload_n 2, 1) := by decide +kernel
theorem dX14_isSameName_51 : decode cX14_isSameName 51 = .ok (.iaload, 1) := by decide +kernel
theorem dX14_isSameName_52 : decode cX14_isSameName 52 = .ok (.iload_n 3, 1) := by decide +kernel
theorem dX14_isSameName_53 : decode cX14_isSameName 53 = .ok (.iadd, 1) := by decide +kernel
theorem dX14_isSameName_54 : decode cX14_isSameName 54 = .ok (.iaload, 1) := by decide +kernel
theorem dX14_isSameName_55 : decode cX14_isSameName 55 = .ok (.if_icmp .eq 5, 3) := by decide +kernel
theorem dX14_isSameName_58 : decode cX14_isSameName 58 = .ok (.iconst 0, 1) := by decide +kernel
theorem dX14_isSameName_59 : decode cX14_isSameName 59 = .ok (.ireturn, 1) := by decide +kernel
theorem dX14_isSameName_60 : decode cX14_isSameName 60 = .ok (.iinc 3 1, 3) := by decide +kernel
theorem dX14_isSameName_63 : decode cX14_isSameName 63 = .ok (.goto (-44), 3) := by decide +kernel
theorem dX14_isSameName_66 : decode cX14_isSameName 66 = .ok (.iconst 1, 1) := by decide +kernel
theorem dX14_isSameName_67 : decode cX14_isSameName 67 = .ok (.ireturn, 1) := by decide +kernel
theorem dX14_known_0 : decode cX14_known 0 = .ok (.iconst 0, 1) := by decide +kernel
theorem dX14_known_1 : decode cX14_known 1 = .ok (.istore_n 3, 1) := by decide +kernel
theorem dX14_known_2 : decode cX14_known 2 = .ok (.iload_n 3, 1) := by decide +kernel
theorem dX14_known_3 : decode cX14_known 3 = .ok (.iload_n 2, 1) := by decide +kernel
theorem dX14_known_4 : decode cX14_known 4 = .ok (.if_icmp .ge 25, 3) := by decide +kernel
theorem dX14_known_7 : decode cX14_known 7 = .ok (.aload_n 0, 1) := by decide +kernel
theorem dX14_known_8 : decode cX14_known 8 = .ok (.aload_n 1, 1) := by decide +kernel
theorem dX14_known_9 : decode cX14_known 9 = .ok (.iload_n 3, 1) := by decide +kernel
theorem dX14_known_10 : decode cX14_known 10 = .ok (.iaload, 1) := by decide +kernel
theorem dX14_known_11 : decode cX14_known 11 = .ok (.aload_n 0, 1) := by decide +kernel
theorem dX14_known_12 : decode cX14_known 12 = .ok (.getfield 123, 3) := by decide +kernel
theorem dX14_known_15 : decode cX14_known 15 = .ok (.invokevirtual 153, 3) := by decide +kernel
theorem dX14_known_18 : decode cX14_known 18 = .ok (.ifCond .eq 5, 3) := by decide +kernel
theorem dX14_known_21 : decode cX14_known 21 = .ok (.iload_n 3, 1) := by decide +kernel
theorem dX14_known_22 : decode cX14_known 22 = .ok (.ireturn, 1) := by decide +kernel
theorem dX14_known_23 : decode cX14_known 23 = .ok (.iinc 3 1, 3) := by decide +kernel
theorem dX14_known_26 : decode cX14_known 26 = .ok (.goto (-24), 3) := by decide +kernel
theorem dX14_known_29 : decode cX14_known 29 = .ok (.iconst (-1), 1) := by decide +kernel
theorem dX14_known_30 : decode cX14_known 30 = .ok (.ireturn, 1) := by decide +kernel
theorem dX14_name_0 : decode cX14_name 0 = .ok (.aload_n 0, 1) := by decide +kernel
theorem dX14_name_1 : decode cX14_name 1 = .ok (.bipush 40, 2) := by decide +kernel
theorem dX14_name_3 : decode cX14_name 3 = .ok (.invokevirtual 132, 3) := by decide +kernel
theorem dX14_name_6 : decode cX14_name 6 = .ok (.ifCond .eq 12, 3) := by decide +kernel
theorem dX14_name_9 : decode cX14_name 9 = .ok (.aload_n 0, 1) := by decide +kernel
theorem dX14_name_10 : decode cX14_name 10 = .ok (.aload_n 1, 1) := by decide +kernel
theorem dX14_name_11 : decode cX14_name 11 = .ok (.iload_n 2, 1) := by decide +kernel
theorem dX14_name_12 : decode cX14_name 12 = .ok (.invokevirtual 157, 3) := by decide +kernel
theorem dX14_name_15 : decode cX14_name 15 = .ok (.goto 4, 3) := by decide +kernel
theorem dX14_name_18 : decode cX14_name 18 = .ok (.iconst 0, 1) := by decide +kernel
theorem dX14_name_19 : decode cX14_name 19 = .ok (.istore_n 3, 1) := by decide +kernel
theorem dX14_name_20 : decode cX14_name 20 = .ok (.iload_n 3, 1) := by decide +kernel
theorem dX14_name_21 : decode cX14_name 21 = .ok (.iconst (-1), 1) := by decide +kernel
theorem dX14_name_22 : decode cX14_name 22 = .ok (.if_icmp .ne 8, 3) := by decide +kernel
theorem dX14_name_25 : decode cX14_name 25 = .ok (.aload_n 0, 1) := by decide +kernel
theorem dX14_name_26 : decode cX14_name 26 = .ok (.iconst 3, 1) := by decide +kernel
theorem dX14_name_27 : decode cX14_name 27 = .ok (.invokevirtual 161, 3) := by decide +kernel
theorem dX14_name_30 : decode cX14_name 30 = .ok (.aload_n 0, 1) := by decide +kernel
theorem dX14_name_31 : decode cX14_name 31 = .ok (.bipush 40, 2) := by decide +kernel
theorem dX14_name_33 : decode cX14_name 33 = .ok (.invokevirtual 165, 3) := by decide +kernel
theorem dX14_name_36 : decode cX14_name 36 = .ok (.iconst 0, 1) := by decide +kernel
theorem dX14_name_37 : decode cX14_name 37 = .ok (.iload_n 3, 1) := by decide +kernel
theorem dX14_name_38 : decode cX14_name 38 = .ok (.invokestatic 66, 3) := by decide +kernel
theorem dX14_name_41 : decode cX14_name 41 = .ok (.ireturn, 1) := by decide +kernel
theorem dX14_front_0 : decode cX14_front 0 = .ok (.aload_n 0, 1) := by decide +kernel
theorem dX14_front_1 : decode cX14_front 1 = .ok (.aload_n 0, 1) := by decide +kernel
theorem dX14_front_2 : decode cX14_front 2 = .ok (.getfield 29, 3) := by decide +kernel
theorem dX14_front_5 : decode cX14_front 5 = .ok (.aload_n 0, 1) := by decide +kernel
theorem dX14_front_6 : decode cX14_front 6 = .ok (.getfield 42, 3) := by decide +kernel
theorem dX14_front_9 : decode cX14_front 9 = .ok (.getfield 168, 3) := by decide +kernel
theorem dX14_front_12 : decode cX14_front 12 = .ok (.invokevirtual 171, 3) := by decide +kernel
theorem dX14_front_15 : decode cX14_front 15 = .ok (.ireturn, 1) := by decide +kernel
theorem dX14_guest_0 : decode cX14_guest 0 = .ok (.aload_n 0, 1) := by decide +kernel
theorem dX14_guest_1 : decode cX14_guest 1 = .ok (.aload_n 0, 1) := by decide +kernel
theorem dX14_guest_2 : decode cX14_guest 2 = .ok (.getfield 32, 3) := by decide +kernel
theorem dX14_guest_5 : decode cX14_guest 5 = .ok (.aload_n 0, 1) := by decide +kernel
theorem dX14_guest_6 : decode cX14_guest 6 = .ok (.getfield 42, 3) := by decide +kernel
theorem dX14_guest_9 : decode cX14_guest 9 = .ok (.getfield 174, 3) := by decide +kernel
theorem dX14_guest_12 : decode cX14_guest 12 = .ok (.invokevirtual 171, 3) := by decide +kernel
theorem dX14_guest_15 : decode cX14_guest 15 = .ok (.ireturn, 1) := by decide +kernel
theorem dX14_newName_0 : decode cX14_newName 0 = .ok (.aload_n 0, 1) := by decide +kernel
theorem dX14_newName_1 : decode cX14_newName 1 = .ok (.bipush 40, 2) := by decide +kernel
theorem dX14_newName_3 : decode cX14_newName 3 = .ok (.invokevirtual 132, 3) := by decide +kernel
theorem dX14_newName_6 : decode cX14_newName 6 = .ok (.ifCond .eq 23, 3) := by decide +kernel
theorem dX14_newName_9 : decode cX14_newName 9 = .ok (.aload_n 0, 1) := by decide +kernel
theorem dX14_newName_10 : decode cX14_newName 10 = .ok (.aload_n 1, 1) := by decide +kernel
theorem dX14_newName_11 : decode cX14_newName 11 = .ok (.bipush 10, 2) := by decide +kernel
theorem dX14_newName_13 : decode cX14_newName 13 = .ok (.iload_n 2, 1) := by decide +kernel
theorem dX14_newName_14 : decode cX14_newName 14 = .ok (.invokestatic 60, 3) := by decide +kernel
theorem dX14_newName_17 : decode cX14_newName 17 = .ok (.invokevirtual 157, 3) := by decide +kernel
theorem dX14_newName_20 : decode cX14_newName 20 = .ok (.iconst (-1), 1) := by decide +kernel
theorem dX14_newName_21 : decode cX14_newName 21 = .ok (.if_icmp .eq 8, 3) := by decide +kernel
theorem dX14_newName_24 : decode cX14_newName 24 = .ok (.aload_n 0, 1) := by decide +kernel
theorem dX14_newName_25 : decode cX14_newName 25 = .ok (.iconst 2, 1) := by decide +kernel
theorem dX14_newName_26 : decode cX14_newName 26 = .ok (.invokevirtual 161, 3) := by decide +kernel
theorem dX14_newName_29 : decode cX14_newName 29 = .ok (.aload_n 0, 1) := by decide +kernel
theorem dX14_newName_30 : decode cX14_newName 30 = .ok (.bipush 40, 2) := by decide +kernel
theorem dX14_newName_32 : decode cX14_newName 32 = .ok (.invokevirtual 132, 3) := by decide +kernel
theorem dX14_newName_35 : decode cX14_newName 35 = .ok (.ifCond .eq 14, 3) := by decide +kernel
theorem dX14_newName_38 : decode cX14_newName 38 = .ok (.iload_n 2, 1) := by decide +kernel
theorem dX14_newName_39 : decode cX14_newName 39 = .ok (.bipush 10, 2) := by decide +kernel
theorem dX14_newName_41 : decode cX14_newName 41 = .ok (.if_icmp .ne 8, 3) := by decide +kernel
theorem dX14_newName_44 : decode cX14_newName 44 = .ok (.aload_n 0, 1) := by decide +kernel
theorem dX14_newName_45 : decode cX14_newName 45 = .ok (.iconst 4, 1) := by decide +kernel
theorem dX14_newName_46 : decode cX14_newName 46 = .ok (.invokevirtual 161, 3) := by decide +kernel
theorem dX14_newName_49 : decode cX14_newName 49 = .ok (.aload_n 0, 1) := by decide +kernel
theorem dX14_newName_50 : decode cX14_newName 50 = .ok (.bipush 40, 2) := by decide +kernel
theorem dX14_newName_52 : decode cX14_newName 52 = .ok (.invokevirtual 132, 3) := by decide +kernel
theorem dX14_newName_55 : decode cX14_newName 55 = .ok (.ifCond .eq 16, 3) := by decide +kernel
theorem dX14_newName_58 : decode cX14_newName 58 = .ok (.iload_n 2, 1) := by decide +kernel
theorem dX14_newName_59 : decode cX14_newName 59 = .ok (.bipush 10, 2) := by decide +kernel
theorem dX14_newName_61 : decode cX14_newName 61 = .ok (.if_icmp .ge 10, 3) := by decide +kernel
theorem dX14_newName_64 : decode cX14_newName 64 = .ok (.aload_n 1, 1) := by decide +kernel
theorem dX14_newName_65 : decode cX14_newName 65 = .ok (.iload_n 2, 1) := by decide +kernel
theorem dX14_newName_66 : decode cX14_newName 66 = .ok (.aload_n 0, 1) := by decide +kernel
theorem dX14_newName_67 : decode cX14_newName 67 = .ok (.getfield 123, 3) := by decide +kernel
theorem dX14_newName_70 : decode cX14_newName 70 = .ok (.iastore, 1) := by decide +kernel
theorem dX14_newName_71 : decode cX14_newName 71 = .ok (.aload_n 0, 1) := by decide +kernel
theorem dX14_newName_72 : decode cX14_newName 72 = .ok (.bipush 40, 2) := by decide +kernel
theorem dX14_newName_74 : decode cX14_newName 74 = .ok (.invokevirtual 165, 3) := by decide +kernel
theorem dX14_newName_77 : decode cX14_newName 77 = .ok (.return_, 1) := by decide +kernel
theorem dX14_inBrackets_0 : decode cX14_inBrackets 0 = .ok (.aload_n 0, 1) := by decide +kernel
theorem dX14_inBrackets_1 : decode cX14_inBrackets 1 = .ok (.invokevirtual 177, 3) := by decide +kernel
theorem dX14_inBrackets_4 : decode cX14_inBrackets 4 = .ok (.aload_n 0, 1) := by decide +kernel
theorem dX14_inBrackets_5 : decode cX14_inBrackets 5 = .ok (.invokevirtual 180, 3) := by decide +kernel
theorem dX14_inBrackets_8 : decode cX14_inBrackets 8 = .ok (.istore_n 1, 1) := by decide +kernel
theorem dX14_inBrackets_9 : decode cX14_inBrackets 9 = .ok (.aload_n 0, 1) := by decide +kernel
theorem dX14_inBrackets_10 : decode cX14_inBrackets 10 = .ok (.bipush 60, 2) := by decide +kernel
theorem dX14_inBrackets_12 : decode cX14_inBrackets 12 = .ok (.invokevirtual 165, 3) := by decide +kernel
theorem dX14_inBrackets_15 : decode cX14_inBrackets 15 = .ok (.aload_n 0, 1) := by decide +kernel
theorem dX14_inBrackets_16 : decode cX14_inBrackets 16 = .ok (.dup, 1) := by decide +kernel
theorem dX14_inBrackets_17 : decode cX14_inBrackets 17 = .ok (.getfield 138, 3) := by decide +kernel
theorem dX14_inBrackets_20 : decode cX14_inBrackets 20 = .ok (.iconst 1, 1) := by decide +kernel
theorem dX14_inBrackets_21 : decode cX14_inBrackets 21 = .ok (.isub, 1) := by decide +kernel
theorem dX14_inBrackets_22 : decode cX14_inBrackets 22 = .ok (.putfield 138, 3) := by decide +kernel
theorem dX14_inBrackets_25 : decode cX14_inBrackets 25 = .ok (.iload_n 1, 1) := by decide +kernel
theorem dX14_inBrackets_26 : decode cX14_inBrackets 26 = .ok (.ireturn, 1) := by decide +kernel
theorem dX14_ofTwo_0 : decode cX14_ofTwo 0 = .ok (.aload_n 0, 1) := by decide +kernel
theorem dX14_ofTwo_1 : decode cX14_ofTwo 1 = .ok (.dup, 1) := by decide +kernel
theorem dX14_ofTwo_2 : decode cX14_ofTwo 2 = .ok (.getfield 123, 3) := by decide +kernel
theorem dX14_ofTwo_5 : decode cX14_ofTwo 5 = .ok (.iconst 1, 1) := by decide +kernel
theorem dX14_ofTwo_6 : decode cX14_ofTwo 6 = .ok (.iadd, 1) := by decide +kernel
theorem dX14_ofTwo_7 : decode cX14_ofTwo 7 = .ok (.putfield 123, 3) := by decide +kernel
theorem dX14_ofTwo_10 : decode cX14_ofTwo 10 = .ok (.aload_n 0, 1) := by decide +kernel
theorem dX14_ofTwo_11 : decode cX14_ofTwo 11 = .ok (.bipush 59, 2) := by decide +kernel
theorem dX14_ofTwo_13 : decode cX14_ofTwo 13 = .ok (.invokevirtual 132, 3) := by decide +kernel
theorem dX14_ofTwo_16 : decode cX14_ofTwo 16 = .ok (.ifCond .ne 9, 3) := by decide +kernel
theorem dX14_ofTwo_19 : decode cX14_ofTwo 19 = .ok (.aload_n 0, 1) := by decide +kernel
theorem dX14_ofTwo_20 : decode cX14_ofTwo 20 = .ok (.invokevirtual 135, 3) := by decide +kernel
theorem dX14_ofTwo_23 : decode cX14_ofTwo 23 = .ok (.iconst 0, 1) := by decide +kernel
theorem dX14_ofTwo_24 : decode cX14_ofTwo 24 = .ok (.ireturn, 1) := by decide +kernel
theorem dX14_ofTwo_25 : decode cX14_ofTwo 25 = .ok (.aload_n 0, 1) := by decide +kernel
theorem dX14_ofTwo_26 : decode cX14_ofTwo 26 = .ok (.invokevirtual 177, 3) := by decide +kernel
theorem dX14_ofTwo_29 : decode cX14_ofTwo 29 = .ok (.aload_n 0, 1) := by decide +kernel
theorem dX14_ofTwo_30 : decode cX14_ofTwo 30 = .ok (.invokevirtual 180, 3) := by decide +kernel
theorem dX14_ofTwo_33 : decode cX14_ofTwo 33 = .ok (.istore_n 2, 1) := by decide +kernel
theorem dX14_ofTwo_34 : decode cX14_ofTwo 34 = .ok (.aload_n 0, 1) := by decide +kernel
theorem dX14_ofTwo_35 : decode cX14_ofTwo 35 = .ok (.bipush 64, 2) := by decide +kernel
theorem dX14_ofTwo_37 : decode cX14_ofTwo 37 = .ok (.invokevirtual 165, 3) := by decide +kernel
theorem dX14_ofTwo_40 : decode cX14_ofTwo 40 = .ok (.aload_n 0, 1) := by decide +kernel
theorem dX14_ofTwo_41 : decode cX14_ofTwo 41 = .ok (.invokevirtual 180, 3) := by decide +kernel
theorem dX14_ofTwo_44 : decode cX14_ofTwo 44 = .ok (.istore_n 3, 1) := by decide +kernel
theorem dX14_ofTwo_45 : decode cX14_ofTwo 45 = .ok (.aload_n 0, 1) := by decide +kernel
theorem dX14_ofTwo_46 : decode cX14_ofTwo 46 = .ok (.bipush 60, 2) := by decide +kernel
theorem dX14_ofTwo_48 : decode cX14_ofTwo 48 = .ok (.invokevirtual 165, 3) := by decide +kernel
theorem dX14_ofTwo_51 : decode cX14_ofTwo 51 = .ok (.aload_n 0, 1) := by decide +kernel
theorem dX14_ofTwo_52 : decode cX14_ofTwo 52 = .ok (.dup, 1) := by decide +kernel
theorem dX14_ofTwo_53 : decode cX14_ofTwo 53 = .ok (.getfield 138, 3) := by decide +kernel
theorem dX14_ofTwo_56 : decode cX14_ofTwo 56 = .ok (.iconst 1, 1) := by decide +kernel
theorem dX14_ofTwo_57 : decode cX14_ofTwo 57 = .ok (.isub, 1) := by decide +kernel
theorem dX14_ofTwo_58 : decode cX14_ofTwo 58 = .ok (.putfield 138, 3) := by decide +kernel
theorem dX14_ofTwo_61 : decode cX14_ofTwo 61 = .ok (.aload_n 0, 1) := by decide +kernel
theorem dX14_ofTwo_62 : decode cX14_ofTwo 62 = .ok (.iload_n 1, 1) := by decide +kernel
theorem dX14_ofTwo_63 : decode cX14_ofTwo 63 = .ok (.iload_n 2, 1) := by decide +kernel
theorem dX14_ofTwo_64 : decode cX14_ofTwo 64 = .ok (.iload_n 3, 1) := by decide +kernel
theorem dX14_ofTwo_65 : decode cX14_ofTwo 65 = .ok (.invokevirtual 183, 3) := by decide +kernel
theorem dX14_ofTwo_68 : decode cX14_ofTwo 68 = .ok (.ireturn, 1) := by decide +kernel
theorem dX14_value_0 : decode cX14_value 0 = .ok (.aload_n 0, 1) := by decide +kernel
theorem dX14_value_1 : decode cX14_value 1 = .ok (.bipush 41, 2) := by decide +kernel
theorem dX14_value_3 : decode cX14_value 3 = .ok (.invokevirtual 132, 3) := by decide +kernel
theorem dX14_value_6 : decode cX14_value 6 = .ok (.ifCond .eq 32, 3) := by decide +kernel
theorem dX14_value_9 : decode cX14_value 9 = .ok (.aload_n 0, 1) := by decide +kernel
theorem dX14_value_10 : decode cX14_value 10 = .ok (.dup, 1) := by decide +kernel
theorem dX14_value_11 : decode cX14_value 11 = .ok (.getfield 123, 3) := by decide +kernel
theorem dX14_value_14 : decode cX14_value 14 = .ok (.iconst 1, 1) := by decide +kernel
theorem dX14_value_15 : decode cX14_value 15 = .ok (.iadd, 1) := by decide +kernel
theorem dX14_value_16 : decode cX14_value 16 = .ok (.putfield 123, 3) := by decide +kernel
theorem dX14_value_19 : decode cX14_value 19 = .ok (.aload_n 0, 1) := by decide +kernel
theorem dX14_value_20 : decode cX14_value 20 = .ok (.bipush 41, 2) := by decide +kernel
theorem dX14_value_22 : decode cX14_value 22 = .ok (.aload_n 0, 1) := by decide +kernel
theorem dX14_value_23 : decode cX14_value 23 = .ok (.getfield 20, 3) := by decide +kernel
theorem dX14_value_26 : decode cX14_value 26 = .ok (.aload_n 0, 1) := by decide +kernel
theorem dX14_value_27 : decode cX14_value 27 = .ok (.getfield 123, 3) := by decide +kernel
theorem dX14_value_30 : decode cX14_value 30 = .ok (.iconst 1, 1) := by decide +kernel
theorem dX14_value_31 : decode cX14_value 31 = .ok (.isub, 1) := by decide +kernel
theorem dX14_value_32 : decode cX14_value 32 = .ok (.iaload, 1) := by decide +kernel
theorem dX14_value_33 : decode cX14_value 33 = .ok (.iconst 0, 1) := by decide +kernel
theorem dX14_value_34 : decode cX14_value 34 = .ok (.invokevirtual 183, 3) := by decide +kernel
theorem dX14_value_37 : decode cX14_value 37 = .ok (.ireturn, 1) := by decide +kernel
theorem dX14_value_38 : decode cX14_value 38 = .ok (.aload_n 0, 1) := by decide +kernel
theorem dX14_value_39 : decode cX14_value 39 = .ok (.getfield 119, 3) := by decide +kernel
theorem dX14_value_42 : decode cX14_value 42 = .ok (.ifCond .ne 64, 3) := by decide +kernel
theorem dX14_value_45 : decode cX14_value 45 = .ok (.aload_n 0, 1) := by decide +kernel
theorem dX14_value_46 : decode cX14_value 46 = .ok (.getfield 17, 3) := by decide +kernel
theorem dX14_value_49 : decode cX14_value 49 = .ok (.aload_n 0, 1) := by decide +kernel
theorem dX14_value_50 : decode cX14_value 50 = .ok (.getfield 123, 3) := by decide +kernel
theorem dX14_value_53 : decode cX14_value 53 = .ok (.iaload, 1) := by decide +kernel
theorem dX14_value_54 : decode cX14_value 54 = .ok (.bipush 16, 2) := by decide +kernel
theorem dX14_value_56 : decode cX14_value 56 = .ok (.bipush 21, 2) := by decide +kernel
theorem dX14_value_58 : decode cX14_value 58 = .ok (.invokestatic 72, 3) := by decide +kernel
theorem dX14_value_61 : decode cX14_value 61 = .ok (.ifCond .ne 17, 3) := by decide +kernel
theorem dX14_value_64 : decode cX14_value 64 = .ok (.aload_n 0, 1) := by decide +kernel
theorem dX14_value_65 : decode cX14_value 65 = .ok (.getfield 17, 3) := by decide +kernel
theorem dX14_value_68 : decode cX14_value 68 = .ok (.aload_n 0, 1) := by decide +kernel
theorem dX14_value_69 : decode cX14_value 69 = .ok (.getfield 123, 3) := by decide +kernel
theorem dX14_value_72 : decode cX14_value 72 = .ok (.iaload, 1) := by decide +kernel
theorem dX14_value_73 : decode cX14_value 73 = .ok (.bipush 24, 2) := by decide +kernel
theorem dX14_value_75 : decode cX14_value 75 = .ok (.if_icmp .ne 31, 3) := by decide +kernel
theorem dX14_value_78 : decode cX14_value 78 = .ok (.aload_n 0, 1) := by decide +kernel
theorem dX14_value_79 : decode cX14_value 79 = .ok (.dup, 1) := by decide +kernel
theorem dX14_value_80 : decode cX14_value 80 = .ok (.getfield 123, 3) := by decide +kernel
theorem dX14_value_83 : decode cX14_value 83 = .ok (.iconst 1, 1) := by decide +kernel
theorem dX14_value_84 : decode cX14_value 84 = .ok (.iadd, 1) := by decide +kernel
theorem dX14_value_85 : decode cX14_value 85 = .ok (.putfield 123, 3) := by decide +kernel
theorem dX14_value_88 : decode cX14_value 88 = .ok (.aload_n 0, 1) := by decide +kernel
theorem dX14_value_89 : decode cX14_value 89 = .ok (.aload_n 0, 1) := by decide +kernel
theorem dX14_value_90 : decode cX14_value 90 = .ok (.getfield 17, 3) := by decide +kernel
theorem dX14_value_93 : decode cX14_value 93 = .ok (.aload_n 0, 1) := by decide +kernel
theorem dX14_value_94 : decode cX14_value 94 = .ok (.getfield 123, 3) := by decide +kernel
theorem dX14_value_97 : decode cX14_value 97 = .ok (.iconst 1, 1) := by decide +kernel
theorem dX14_value_98 : decode cX14_value 98 = .ok (.isub, 1) := by decide +kernel
theorem dX14_value_99 : decode cX14_value 99 = .ok (.iaload, 1) := by decide +kernel
theorem dX14_value_100 : decode cX14_value 100 = .ok (.iconst 0, 1) := by decide +kernel
theorem dX14_value_101 : decode cX14_value 101 = .ok (.iconst 0, 1) := by decide +kernel
theorem dX14_value_102 : decode cX14_value 102 = .ok (.invokevirtual 183, 3) := by decide +kernel
theorem dX14_value_105 : decode cX14_value 105 = .ok (.ireturn, 1) := by decide +kernel
theorem dX14_value_106 : decode cX14_value 106 = .ok (.aload_n 0, 1) := by decide +kernel
theorem dX14_value_107 : decode cX14_value 107 = .ok (.bipush 6, 2) := by decide +kernel
theorem dX14_value_109 : decode cX14_value 109 = .ok (.invokevirtual 187, 3) := by decide +kernel
theorem dX14_value_112 : decode cX14_value 112 = .ok (.ifCond .eq 21, 3) := by decide +kernel
theorem dX14_value_115 : decode cX14_value 115 = .ok (.aload_n 0, 1) := by decide +kernel
theorem dX14_value_116 : decode cX14_value 116 = .ok (.bipush 31, 2) := by decide +kernel
theorem dX14_value_118 : decode cX14_value 118 = .ok (.invokevirtual 165, 3) := by decide +kernel
theorem dX14_value_121 : decode cX14_value 121 = .ok (.aload_n 0, 1) := by decide +kernel
theorem dX14_value_122 : decode cX14_value 122 = .ok (.bipush 6, 2) := by decide +kernel
theorem dX14_value_124 : decode cX14_value 124 = .ok (.aload_n 0, 1) := by decide +kernel
theorem dX14_value_125 : decode cX14_value 125 = .ok (.invokevirtual 190, 3) := by decide +kernel
theorem dX14_value_128 : decode cX14_value 128 = .ok (.iconst 0, 1) := by decide +kernel
theorem dX14_value_129 : decode cX14_value 129 = .ok (.invokevirtual 183, 3) := by decide +kernel
theorem dX14_value_132 : decode cX14_value 132 = .ok (.ireturn, 1) := by decide +kernel
theorem dX14_value_133 : decode cX14_value 133 = .ok (.aload_n 0, 1) := by decide +kernel
theorem dX14_value_134 : decode cX14_value 134 = .ok (.bipush 29, 2) := by decide +kernel
theorem dX14_value_136 : decode cX14_value 136 = .ok (.invokevirtual 132, 3) := by decide +kernel
theorem dX14_value_139 : decode cX14_value 139 = .ok (.ifCond .ne 12, 3) := by decide +kernel
theorem dX14_value_142 : decode cX14_value 142 = .ok (.aload_n 0, 1) := by decide +kernel
theorem dX14_value_143 : decode cX14_value 143 = .ok (.bipush 30, 2) := by decide +kernel
theorem dX14_value_145 : decode cX14_value 145 = .ok (.invokevirtual 132, 3) := by decide +kernel
theorem dX14_value_148 : decode cX14_value 148 = .ok (.ifCond .eq 17, 3) := by decide +kernel
theorem dX14_value_151 : decode cX14_value 151 = .ok (.aload_n 0, 1) := by decide +kernel
theorem dX14_value_152 : decode cX14_value 152 = .ok (.aload_n 0, 1) := by decide +kernel
theorem dX14_value_153 : decode cX14_value 153 = .ok (.getfield 17, 3) := by decide +kernel
theorem dX14_value_156 : decode cX14_value 156 = .ok (.aload_n 0, 1) := by decide +kernel
theorem dX14_value_157 : decode cX14_value 157 = .ok (.getfield 123, 3) := by decide +kernel
theorem dX14_value_160 : decode cX14_value 160 = .ok (.iaload, 1) := by decide +kernel
theorem dX14_value_161 : decode cX14_value 161 = .ok (.invokevirtual 193, 3) := by decide +kernel
theorem dX14_value_164 : decode cX14_value 164 = .ok (.ireturn, 1) := by decide +kernel
theorem dX14_value_165 : decode cX14_value 165 = .ok (.aload_n 0, 1) := by decide +kernel
theorem dX14_value_166 : decode cX14_value 166 = .ok (.bipush 59, 2) := by decide +kernel
theorem dX14_value_168 : decode cX14_value 168 = .ok (.invokevirtual 132, 3) := by decide +kernel
theorem dX14_value_171 : decode cX14_value 171 = .ok (.ifCond .eq 8, 3) := by decide +kernel
theorem dX14_value_174 : decode cX14_value 174 = .ok (.aload_n 0, 1) := by decide +kernel
theorem dX14_value_175 : decode cX14_value 175 = .ok (.invokevirtual 196, 3) := by decide +kernel
theorem dX14_value_178 : decode cX14_value 178 = .ok (.ireturn, 1) := by decide +kernel
theorem dX14_value_179 : decode cX14_value 179 = .ok (.aload_n 0, 1) := by decide +kernel
theorem dX14_value_180 : decode cX14_value 180 = .ok (.bipush 51, 2) := by decide +kernel
theorem dX14_value_182 : decode cX14_value 182 = .ok (.invokevirtual 132, 3) := by decide +kernel
theorem dX14_value_185 : decode cX14_value 185 = .ok (.ifCond .ne 9, 3) := by decide +kernel
theorem dX14_value_188 : decode cX14_value 188 = .ok (.aload_n 0, 1) := by decide +kernel
theorem dX14_value_189 : decode cX14_value 189 = .ok (.invokevirtual 135, 3) := by decide +kernel
theorem dX14_value_192 : decode cX14_value 192 = .ok (.iconst 0, 1) := by decide +kernel
theorem dX14_value_193 : decode cX14_value 193 = .ok (.ireturn, 1) := by decide +kernel
theorem dX14_value_194 : decode cX14_value 194 = .ok (.aload_n 0, 1) := by decide +kernel
theorem dX14_value_195 : decode cX14_value 195 = .ok (.invokevirtual 177, 3) := by decide +kernel
theorem dX14_value_198 : decode cX14_value 198 = .ok (.aload_n 0, 1) := by decide +kernel
theorem dX14_value_199 : decode cX14_value 199 = .ok (.invokevirtual 199, 3) := by decide +kernel
theorem dX14_value_202 : decode cX14_value 202 = .ok (.istore_n 1, 1) := by decide +kernel
theorem dX14_value_203 : decode cX14_value 203 = .ok (.aload_n 0, 1) := by decide +kernel
theorem dX14_value_204 : decode cX14_value 204 = .ok (.dup, 1) := by decide +kernel
theorem dX14_value_205 : decode cX14_value 205 = .ok (.getfield 138, 3) := by decide +kernel
theorem dX14_value_208 : decode cX14_value 208 = .ok (.iconst 1, 1) := by decide +kernel
theorem dX14_value_209 : decode cX14_value 209 = .ok (.isub, 1) := by decide +kernel
theorem dX14_value_210 : decode cX14_value 210 = .ok (.putfield 138, 3) := by decide +kernel
theorem dX14_value_213 : decode cX14_value 213 = .ok (.aload_n 0, 1) := by decide +kernel
theorem dX14_value_214 : decode cX14_value 214 = .ok (.bipush 70, 2) := by decide +kernel
theorem dX14_value_216 : decode cX14_value 216 = .ok (.iload_n 1, 1) := by decide +kernel
theorem dX14_value_217 : decode cX14_value 217 = .ok (.iconst 0, 1) := by decide +kernel
theorem dX14_value_218 : decode cX14_value 218 = .ok (.invokevirtual 183, 3) := by decide +kernel
theorem dX14_value_221 : decode cX14_value 221 = .ok (.ireturn, 1) := by decide +kernel
theorem dX14_product_0 : decode cX14_product 0 = .ok (.aload_n 0, 1) := by decide +kernel
theorem dX14_product_1 : decode cX14_product 1 = .ok (.invokevirtual 199, 3) := by decide +kernel
theorem dX14_product_4 : decode cX14_product 4 = .ok (.istore_n 1, 1) := by decide +kernel
theorem dX14_product_5 : decode cX14_product 5 = .ok (.aload_n 0, 1) := by decide +kernel
theorem dX14_product_6 : decode cX14_product 6 = .ok (.bipush 52, 2) := by decide +kernel
theorem dX14_product_8 : decode cX14_product 8 = .ok (.invokevirtual 132, 3) := by decide +kernel
theorem dX14_product_11 : decode cX14_product 11 = .ok (.ifCond .ne 12, 3) := by decide +kernel
theorem dX14_product_14 : decode cX14_product 14 = .ok (.aload_n 0, 1) := by decide +kernel
theorem dX14_product_15 : decode cX14_product 15 = .ok (.bipush 53, 2) := by decide +kernel
theorem dX14_product_17 : decode cX14_product 17 = .ok (.invokevirtual 132, 3) := by decide +kernel
theorem dX14_product_20 : decode cX14_product 20 = .ok (.ifCond .eq 37, 3) := by decide +kernel
theorem dX14_product_23 : decode cX14_product 23 = .ok (.aload_n 0, 1) := by decide +kernel
theorem dX14_product_24 : decode cX14_product 24 = .ok (.getfield 17, 3) := by decide +kernel
theorem dX14_product_27 : decode cX14_product 27 = .ok (.aload_n 0, 1) := by decide +kernel
theorem dX14_product_28 : decode cX14_product 28 = .ok (.getfield 123, 3) := by decide +kernel
theorem dX14_product_31 : decode cX14_product 31 = .ok (.iaload, 1) := by decide +kernel
theorem dX14_product_32 : decode cX14_product 32 = .ok (.istore_n 2, 1) := by decide +kernel
theorem dX14_product_33 : decode cX14_product 33 = .ok (.aload_n 0, 1) := by decide +kernel
theorem dX14_product_34 : decode cX14_product 34 = .ok (.dup, 1) := by decide +kernel
theorem dX14_product_35 : decode cX14_product 35 = .ok (.getfield 123, 3) := by decide +kernel
theorem dX14_product_38 : decode cX14_product 38 = .ok (.iconst 1, 1) := by decide +kernel
theorem dX14_product_39 : decode cX14_product 39 = .ok (.iadd, 1) := by decide +kernel
theorem dX14_product_40 : decode cX14_product 40 = .ok (.putfield 123, 3) := by decide +kernel
theorem dX14_product_43 : decode cX14_product 43 = .ok (.aload_n 0, 1) := by decide +kernel
theorem dX14_product_44 : decode cX14_product 44 = .ok (.iload_n 2, 1) := by decide +kernel
theorem dX14_product_45 : decode cX14_product 45 = .ok (.iload_n 1, 1) := by decide +kernel
theorem dX14_product_46 : decode cX14_product 46 = .ok (.aload_n 0, 1) := by decide +kernel
theorem dX14_product_47 : decode cX14_product 47 = .ok (.invokevirtual 199, 3) := by decide +kernel
theorem dX14_product_50 : decode cX14_product 50 = .ok (.invokevirtual 183, 3) := by decide +kernel
theorem dX14_product_53 : decode cX14_product 53 = .ok (.istore_n 1, 1) := by decide +kernel
theorem dX14_product_54 : decode cX14_product 54 = .ok (.goto (-49), 3) := by decide +kernel
theorem dX14_product_57 : decode cX14_product 57 = .ok (.iload_n 1, 1) := by decide +kernel
theorem dX14_product_58 : decode cX14_product 58 = .ok (.ireturn, 1) := by decide +kernel
theorem dX14_sum_0 : decode cX14_sum 0 = .ok (.aload_n 0, 1) := by decide +kernel
theorem dX14_sum_1 : decode cX14_sum 1 = .ok (.invokevirtual 201, 3) := by decide +kernel
theorem dX14_sum_4 : decode cX14_sum 4 = .ok (.istore_n 1, 1) := by decide +kernel
theorem dX14_sum_5 : decode cX14_sum 5 = .ok (.aload_n 0, 1) := by decide +kernel
theorem dX14_sum_6 : decode cX14_sum 6 = .ok (.bipush 50, 2) := by decide +kernel
theorem dX14_sum_8 : decode cX14_sum 8 = .ok (.invokevirtual 132, 3) := by decide +kernel
theorem dX14_sum_11 : decode cX14_sum 11 = .ok (.ifCond .ne 12, 3) := by decide +kernel
theorem dX14_sum_14 : decode cX14_sum 14 = .ok (.aload_n 0, 1) := by decide +kernel
theorem dX14_sum_15 : decode cX14_sum 15 = .ok (.bipush 51, 2) := by decide +kernel
theorem dX14_sum_17 : decode cX14_sum 17 = .ok (.invokevirtual 132, 3) := by decide +kernel
theorem dX14_sum_20 : decode cX14_sum 20 = .ok (.ifCond .eq 37, 3) := by decide +kernel
theorem dX14_sum_23 : decode cX14_sum 23 = .ok (.aload_n 0, 1) := by decide +kernel
theorem dX14_sum_24 : decode cX14_sum 24 = .ok (.getfield 17, 3) := by decide +kernel
theorem dX14_sum_27 : decode cX14_sum 27 = .ok (.aload_n 0, 1) := by decide +kernel
theorem dX14_sum_28 : decode cX14_sum 28 = .ok (.getfield 123, 3) := by decide +kernel
theorem dX14_sum_31 : decode cX14_sum 31 = .ok (.iaload, 1) := by decide +kernel
theorem dX14_sum_32 : decode cX14_sum 32 = .ok (.istore_n 2, 1) := by decide +kernel
theorem dX14_sum_33 : decode cX14_sum 33 = .ok (.aload_n 0, 1) := by decide +kernel
theorem dX14_sum_34 : decode cX14_sum 34 = .ok (.dup, 1) := by decide +kernel
theorem dX14_sum_35 : decode cX14_sum 35 = .ok (.getfield 123, 3) := by decide +kernel
theorem dX14_sum_38 : decode cX14_sum 38 = .ok (.iconst 1, 1) := by decide +kernel
theorem dX14_sum_39 : decode cX14_sum 39 = .ok (.iadd, 1) := by decide +kernel
theorem dX14_sum_40 : decode cX14_sum 40 = .ok (.putfield 123, 3) := by decide +kernel
theorem dX14_sum_43 : decode cX14_sum 43 = .ok (.aload_n 0, 1) := by decide +kernel
theorem dX14_sum_44 : decode cX14_sum 44 = .ok (.iload_n 2, 1) := by decide +kernel
theorem dX14_sum_45 : decode cX14_sum 45 = .ok (.iload_n 1, 1) := by decide +kernel
theorem dX14_sum_46 : decode cX14_sum 46 = .ok (.aload_n 0, 1) := by decide +kernel
theorem dX14_sum_47 : decode cX14_sum 47 = .ok (.invokevirtual 201, 3) := by decide +kernel
theorem dX14_sum_50 : decode cX14_sum 50 = .ok (.invokevirtual 183, 3) := by decide +kernel
theorem dX14_sum_53 : decode cX14_sum 53 = .ok (.istore_n 1, 1) := by decide +kernel
theorem dX14_sum_54 : decode cX14_sum 54 = .ok (.goto (-49), 3) := by decide +kernel
theorem dX14_sum_57 : decode cX14_sum 57 = .ok (.iload_n 1, 1) := by decide +kernel
theorem dX14_sum_58 : decode cX14_sum 58 = .ok (.ireturn, 1) := by decide +kernel
theorem dX14_comparison_0 : decode cX14_comparison 0 = .ok (.aload_n 0, 1) := by decide +kernel
theorem dX14_comparison_1 : decode cX14_comparison 1 = .ok (.invokevirtual 180, 3) := by decide +kernel
theorem dX14_comparison_4 : decode cX14_comparison 4 = .ok (.istore_n 1, 1) := by decide +kernel
theorem dX14_comparison_5 : decode cX14_comparison 5 = .ok (.aload_n 0, 1) := by decide +kernel
theorem dX14_comparison_6 : decode cX14_comparison 6 = .ok (.getfield 17, 3) := by decide +kernel
theorem dX14_comparison_9 : decode cX14_comparison 9 = .ok (.aload_n 0, 1) := by decide +kernel
theorem dX14_comparison_10 : decode cX14_comparison 10 = .ok (.getfield 123, 3) := by decide +kernel
theorem dX14_comparison_13 : decode cX14_comparison 13 = .ok (.iaload, 1) := by decide +kernel
theorem dX14_comparison_14 : decode cX14_comparison 14 = .ok (.istore_n 2, 1) := by decide +kernel
theorem dX14_comparison_15 : decode cX14_comparison 15 = .ok (.aload_n 0, 1) := by decide +kernel
theorem dX14_comparison_16 : decode cX14_comparison 16 = .ok (.getfield 119, 3) := by decide +kernel
theorem dX14_comparison_19 : decode cX14_comparison 19 = .ok (.ifCond .ne 14, 3) := by decide +kernel
theorem dX14_comparison_22 : decode cX14_comparison 22 = .ok (.iload_n 2, 1) := by decide +kernel
theorem dX14_comparison_23 : decode cX14_comparison 23 = .ok (.bipush 54, 2) := by decide +kernel
theorem dX14_comparison_25 : decode cX14_comparison 25 = .ok (.bipush 58, 2) := by decide +kernel
theorem dX14_comparison_27 : decode cX14_comparison 27 = .ok (.invokestatic 72, 3) := by decide +kernel
theorem dX14_comparison_30 : decode cX14_comparison 30 = .ok (.ifCond .ne 9, 3) := by decide +kernel
theorem dX14_comparison_33 : decode cX14_comparison 33 = .ok (.aload_n 0, 1) := by decide +kernel
theorem dX14_comparison_34 : decode cX14_comparison 34 = .ok (.invokevirtual 135, 3) := by decide +kernel
theorem dX14_comparison_37 : decode cX14_comparison 37 = .ok (.iconst 0, 1) := by decide +kernel
theorem dX14_comparison_38 : decode cX14_comparison 38 = .ok (.ireturn, 1) := by decide +kernel
theorem dX14_comparison_39 : decode cX14_comparison 39 = .ok (.aload_n 0, 1) := by decide +kernel
theorem dX14_comparison_40 : decode cX14_comparison 40 = .ok (.dup, 1) := by decide +kernel
theorem dX14_comparison_41 : decode cX14_comparison 41 = .ok (.getfield 123, 3) := by decide +kernel
theorem dX14_comparison_44 : decode cX14_comparison 44 = .ok (.iconst 1, 1) := by decide +kernel
theorem dX14_comparison_45 : decode cX14_comparison 45 = .ok (.iadd, 1) := by decide +kernel
theorem dX14_comparison_46 : decode cX14_comparison 46 = .ok (.putfield 123, 3) := by decide +kernel
theorem dX14_comparison_49 : decode cX14_comparison 49 = .ok (.aload_n 0, 1) := by decide +kernel
theorem dX14_comparison_50 : decode cX14_comparison 50 = .ok (.iload_n 2, 1) := by decide +kernel
theorem dX14_comparison_51 : decode cX14_comparison 51 = .ok (.iload_n 1, 1) := by decide +kernel
theorem dX14_comparison_52 : decode cX14_comparison 52 = .ok (.aload_n 0, 1) := by decide +kernel
theorem dX14_comparison_53 : decode cX14_comparison 53 = .ok (.invokevirtual 180, 3) := by decide +kernel
theorem dX14_comparison_56 : decode cX14_comparison 56 = .ok (.invokevirtual 183, 3) := by decide +kernel
theorem dX14_comparison_59 : decode cX14_comparison 59 = .ok (.ireturn, 1) := by decide +kernel
theorem dX14_single_0 : decode cX14_single 0 = .ok (.aload_n 0, 1) := by decide +kernel
theorem dX14_single_1 : decode cX14_single 1 = .ok (.bipush 26, 2) := by decide +kernel
theorem dX14_single_3 : decode cX14_single 3 = .ok (.invokevirtual 132, 3) := by decide +kernel
theorem dX14_single_6 : decode cX14_single 6 = .ok (.ifCond .eq 31, 3) := by decide +kernel
theorem dX14_single_9 : decode cX14_single 9 = .ok (.aload_n 0, 1) := by decide +kernel
theorem dX14_single_10 : decode cX14_single 10 = .ok (.invokevirtual 177, 3) := by decide +kernel
theorem dX14_single_13 : decode cX14_single 13 = .ok (.aload_n 0, 1) := by decide +kernel
theorem dX14_single_14 : decode cX14_single 14 = .ok (.invokevirtual 204, 3) := by decide +kernel
theorem dX14_single_17 : decode cX14_single 17 = .ok (.istore_n 1, 1) := by decide +kernel
theorem dX14_single_18 : decode cX14_single 18 = .ok (.aload_n 0, 1) := by decide +kernel
theorem dX14_single_19 : decode cX14_single 19 = .ok (.dup, 1) := by decide +kernel
theorem dX14_single_20 : decode cX14_single 20 = .ok (.getfield 138, 3) := by decide +kernel
theorem dX14_single_23 : decode cX14_single 23 = .ok (.iconst 1, 1) := by decide +kernel
theorem dX14_single_24 : decode cX14_single 24 = .ok (.isub, 1) := by decide +kernel
theorem dX14_single_25 : decode cX14_single 25 = .ok (.putfield 138, 3) := by decide +kernel
theorem dX14_single_28 : decode cX14_single 28 = .ok (.aload_n 0, 1) := by decide +kernel
theorem dX14_single_29 : decode cX14_single 29 = .ok (.bipush 26, 2) := by decide +kernel
theorem dX14_single_31 : decode cX14_single 31 = .ok (.iload_n 1, 1) := by decide +kernel
theorem dX14_single_32 : decode cX14_single 32 = .ok (.iconst 0, 1) := by decide +kernel
theorem dX14_single_33 : decode cX14_single 33 = .ok (.invokevirtual 183, 3) := by decide +kernel
theorem dX14_single_36 : decode cX14_single 36 = .ok (.ireturn, 1) := by decide +kernel
theorem dX14_single_37 : decode cX14_single 37 = .ok (.aload_n 0, 1) := by decide +kernel
theorem dX14_single_38 : decode cX14_single 38 = .ok (.bipush 61, 2) := by decide +kernel
theorem dX14_single_40 : decode cX14_single 40 = .ok (.invokevirtual 132, 3) := by decide +kernel
theorem dX14_single_43 : decode cX14_single 43 = .ok (.ifCond .eq 30, 3) := by decide +kernel
theorem dX14_single_46 : decode cX14_single 46 = .ok (.aload_n 0, 1) := by decide +kernel
theorem dX14_single_47 : decode cX14_single 47 = .ok (.invokevirtual 177, 3) := by decide +kernel
theorem dX14_single_50 : decode cX14_single 50 = .ok (.aload_n 0, 1) := by decide +kernel
theorem dX14_single_51 : decode cX14_single 51 = .ok (.invokevirtual 207, 3) := by decide +kernel
theorem dX14_single_54 : decode cX14_single 54 = .ok (.istore_n 1, 1) := by decide +kernel
theorem dX14_single_55 : decode cX14_single 55 = .ok (.aload_n 0, 1) := by decide +kernel
theorem dX14_single_56 : decode cX14_single 56 = .ok (.bipush 62, 2) := by decide +kernel
theorem dX14_single_58 : decode cX14_single 58 = .ok (.invokevirtual 165, 3) := by decide +kernel
theorem dX14_single_61 : decode cX14_single 61 = .ok (.aload_n 0, 1) := by decide +kernel
theorem dX14_single_62 : decode cX14_single 62 = .ok (.dup, 1) := by decide +kernel
theorem dX14_single_63 : decode cX14_single 63 = .ok (.getfield 138, 3) := by decide +kernel
theorem dX14_single_66 : decode cX14_single 66 = .ok (.iconst 1, 1) := by decide +kernel
theorem dX14_single_67 : decode cX14_single 67 = .ok (.isub, 1) := by decide +kernel
theorem dX14_single_68 : decode cX14_single 68 = .ok (.putfield 138, 3) := by decide +kernel
theorem dX14_single_71 : decode cX14_single 71 = .ok (.iload_n 1, 1) := by decide +kernel
theorem dX14_single_72 : decode cX14_single 72 = .ok (.ireturn, 1) := by decide +kernel
theorem dX14_single_73 : decode cX14_single 73 = .ok (.aload_n 0, 1) := by decide +kernel
theorem dX14_single_74 : decode cX14_single 74 = .ok (.bipush 23, 2) := by decide +kernel
theorem dX14_single_76 : decode cX14_single 76 = .ok (.invokevirtual 187, 3) := by decide +kernel
theorem dX14_single_79 : decode cX14_single 79 = .ok (.ifCond .eq 15, 3) := by decide +kernel
theorem dX14_single_82 : decode cX14_single 82 = .ok (.aload_n 0, 1) := by decide +kernel
theorem dX14_single_83 : decode cX14_single 83 = .ok (.bipush 23, 2) := by decide +kernel
theorem dX14_single_85 : decode cX14_single 85 = .ok (.aload_n 0, 1) := by decide +kernel
theorem dX14_single_86 : decode cX14_single 86 = .ok (.invokevirtual 190, 3) := by decide +kernel
theorem dX14_single_89 : decode cX14_single 89 = .ok (.iconst 0, 1) := by decide +kernel
theorem dX14_single_90 : decode cX14_single 90 = .ok (.invokevirtual 183, 3) := by decide +kernel
theorem dX14_single_93 : decode cX14_single 93 = .ok (.ireturn, 1) := by decide +kernel
theorem dX14_single_94 : decode cX14_single 94 = .ok (.aload_n 0, 1) := by decide +kernel
theorem dX14_single_95 : decode cX14_single 95 = .ok (.bipush 22, 2) := by decide +kernel
theorem dX14_single_97 : decode cX14_single 97 = .ok (.invokevirtual 132, 3) := by decide +kernel
theorem dX14_single_100 : decode cX14_single 100 = .ok (.ifCond .ne 12, 3) := by decide +kernel
theorem dX14_single_103 : decode cX14_single 103 = .ok (.aload_n 0, 1) := by decide +kernel
theorem dX14_single_104 : decode cX14_single 104 = .ok (.bipush 25, 2) := by decide +kernel
theorem dX14_single_106 : decode cX14_single 106 = .ok (.invokevirtual 132, 3) := by decide +kernel
theorem dX14_single_109 : decode cX14_single 109 = .ok (.ifCond .eq 34, 3) := by decide +kernel
theorem dX14_single_112 : decode cX14_single 112 = .ok (.aload_n 0, 1) := by decide +kernel
theorem dX14_single_113 : decode cX14_single 113 = .ok (.getfield 17, 3) := by decide +kernel
theorem dX14_single_116 : decode cX14_single 116 = .ok (.aload_n 0, 1) := by decide +kernel
theorem dX14_single_117 : decode cX14_single 117 = .ok (.getfield 123, 3) := by decide +kernel
theorem dX14_single_120 : decode cX14_single 120 = .ok (.iaload, 1) := by decide +kernel
theorem dX14_single_121 : decode cX14_single 121 = .ok (.istore_n 1, 1) := by decide +kernel
theorem dX14_single_122 : decode cX14_single 122 = .ok (.aload_n 0, 1) := by decide +kernel
theorem dX14_single_123 : decode cX14_single 123 = .ok (.dup, 1) := by decide +kernel
theorem dX14_single_124 : decode cX14_single 124 = .ok (.getfield 123, 3) := by decide +kernel
theorem dX14_single_127 : decode cX14_single 127 = .ok (.iconst 1, 1) := by decide +kernel
theorem dX14_single_128 : decode cX14_single 128 = .ok (.iadd, 1) := by decide +kernel
theorem dX14_single_129 : decode cX14_single 129 = .ok (.putfield 123, 3) := by decide +kernel
theorem dX14_single_132 : decode cX14_single 132 = .ok (.aload_n 0, 1) := by decide +kernel
theorem dX14_single_133 : decode cX14_single 133 = .ok (.iload_n 1, 1) := by decide +kernel
theorem dX14_single_134 : decode cX14_single 134 = .ok (.aload_n 0, 1) := by decide +kernel
theorem dX14_single_135 : decode cX14_single 135 = .ok (.invokevirtual 210, 3) := by decide +kernel
theorem dX14_single_138 : decode cX14_single 138 = .ok (.iconst 0, 1) := by decide +kernel
theorem dX14_single_139 : decode cX14_single 139 = .ok (.invokevirtual 183, 3) := by decide +kernel
theorem dX14_single_142 : decode cX14_single 142 = .ok (.ireturn, 1) := by decide +kernel
theorem dX14_single_143 : decode cX14_single 143 = .ok (.aload_n 0, 1) := by decide +kernel
theorem dX14_single_144 : decode cX14_single 144 = .ok (.invokevirtual 213, 3) := by decide +kernel
theorem dX14_single_147 : decode cX14_single 147 = .ok (.ireturn, 1) := by decide +kernel
theorem dX14_both_0 : decode cX14_both 0 = .ok (.aload_n 0, 1) := by decide +kernel
theorem dX14_both_1 : decode cX14_both 1 = .ok (.invokevirtual 204, 3) := by decide +kernel
theorem dX14_both_4 : decode cX14_both 4 = .ok (.istore_n 1, 1) := by decide +kernel
theorem dX14_both_5 : decode cX14_both 5 = .ok (.aload_n 0, 1) := by decide +kernel
theorem dX14_both_6 : decode cX14_both 6 = .ok (.bipush 27, 2) := by decide +kernel
theorem dX14_both_8 : decode cX14_both 8 = .ok (.invokevirtual 187, 3) := by decide +kernel
theorem dX14_both_11 : decode cX14_both 11 = .ok (.ifCond .eq 18, 3) := by decide +kernel
theorem dX14_both_14 : decode cX14_both 14 = .ok (.aload_n 0, 1) := by decide +kernel
theorem dX14_both_15 : decode cX14_both 15 = .ok (.bipush 27, 2) := by decide +kernel
theorem dX14_both_17 : decode cX14_both 17 = .ok (.iload_n 1, 1) := by decide +kernel
theorem dX14_both_18 : decode cX14_both 18 = .ok (.aload_n 0, 1) := by decide +kernel
theorem dX14_both_19 : decode cX14_both 19 = .ok (.invokevirtual 204, 3) := by decide +kernel
theorem dX14_both_22 : decode cX14_both 22 = .ok (.invokevirtual 183, 3) := by decide +kernel
theorem dX14_both_25 : decode cX14_both 25 = .ok (.istore_n 1, 1) := by decide +kernel
theorem dX14_both_26 : decode cX14_both 26 = .ok (.goto (-21), 3) := by decide +kernel
theorem dX14_both_29 : decode cX14_both 29 = .ok (.iload_n 1, 1) := by decide +kernel
theorem dX14_both_30 : decode cX14_both 30 = .ok (.ireturn, 1) := by decide +kernel
theorem dX14_test_0 : decode cX14_test 0 = .ok (.aload_n 0, 1) := by decide +kernel
theorem dX14_test_1 : decode cX14_test 1 = .ok (.invokevirtual 216, 3) := by decide +kernel
theorem dX14_test_4 : decode cX14_test 4 = .ok (.istore_n 1, 1) := by decide +kernel
theorem dX14_test_5 : decode cX14_test 5 = .ok (.aload_n 0, 1) := by decide +kernel
theorem dX14_test_6 : decode cX14_test 6 = .ok (.bipush 28, 2) := by decide +kernel
theorem dX14_test_8 : decode cX14_test 8 = .ok (.invokevirtual 187, 3) := by decide +kernel
theorem dX14_test_11 : decode cX14_test 11 = .ok (.ifCond .eq 18, 3) := by decide +kernel
theorem dX14_test_14 : decode cX14_test 14 = .ok (.aload_n 0, 1) := by decide +kernel
theorem dX14_test_15 : decode cX14_test 15 = .ok (.bipush 28, 2) := by decide +kernel
theorem dX14_test_17 : decode cX14_test 17 = .ok (.iload_n 1, 1) := by decide +kernel
theorem dX14_test_18 : decode cX14_test 18 = .ok (.aload_n 0, 1) := by decide +kernel
theorem dX14_test_19 : decode cX14_test 19 = .ok (.invokevirtual 216, 3) := by decide +kernel
theorem dX14_test_22 : decode cX14_test 22 = .ok (.invokevirtual 183, 3) := by decide +kernel
theorem dX14_test_25 : decode cX14_test 25 = .ok (.istore_n 1, 1) := by decide +kernel
theorem dX14_test_26 : decode cX14_test 26 = .ok (.goto (-21), 3) := by decide +kernel
theorem dX14_test_29 : decode cX14_test 29 = .ok (.iload_n 1, 1) := by decide +kernel
theorem dX14_test_30 : decode cX14_test 30 = .ok (.ireturn, 1) := by decide +kernel
theorem dX14_numberBehind_0 : decode cX14_numberBehind 0 = .ok (.aload_n 0, 1) := by decide +kernel
theorem dX14_numberBehind_1 : decode cX14_numberBehind 1 = .ok (.iload_n 1, 1) := by decide +kernel
theorem dX14_numberBehind_2 : decode cX14_numberBehind 2 = .ok (.invokevirtual 165, 3) := by decide +kernel
theorem dX14_numberBehind_5 : decode cX14_numberBehind 5 = .ok (.aload_n 0, 1) := by decide +kernel
theorem dX14_numberBehind_6 : decode cX14_numberBehind 6 = .ok (.getfield 20, 3) := by decide +kernel
theorem dX14_numberBehind_9 : decode cX14_numberBehind 9 = .ok (.aload_n 0, 1) := by decide +kernel
theorem dX14_numberBehind_10 : decode cX14_numberBehind 10 = .ok (.getfield 123, 3) := by decide +kernel
theorem dX14_numberBehind_13 : decode cX14_numberBehind 13 = .ok (.iaload, 1) := by decide +kernel
theorem dX14_numberBehind_14 : decode cX14_numberBehind 14 = .ok (.istore 4, 2) := by decide +kernel
theorem dX14_numberBehind_16 : decode cX14_numberBehind 16 = .ok (.aload_n 0, 1) := by decide +kernel
theorem dX14_numberBehind_17 : decode cX14_numberBehind 17 = .ok (.bipush 41, 2) := by decide +kernel
theorem dX14_numberBehind_19 : decode cX14_numberBehind 19 = .ok (.invokevirtual 132, 3) := by decide +kernel
theorem dX14_numberBehind_22 : decode cX14_numberBehind 22 = .ok (.ifCond .eq 18, 3) := by decide +kernel
theorem dX14_numberBehind_25 : decode cX14_numberBehind 25 = .ok (.iload 4, 2) := by decide +kernel
theorem dX14_numberBehind_27 : decode cX14_numberBehind 27 = .ok (.iload_n 2, 1) := by decide +kernel
theorem dX14_numberBehind_28 : decode cX14_numberBehind 28 = .ok (.iload_n 3, 1) := by decide +kernel
theorem dX14_numberBehind_29 : decode cX14_numberBehind 29 = .ok (.invokestatic 72, 3) := by decide +kernel
theorem dX14_numberBehind_32 : decode cX14_numberBehind 32 = .ok (.ifCond .ne 8, 3) := by decide +kernel
theorem dX14_numberBehind_35 : decode cX14_numberBehind 35 = .ok (.aload_n 0, 1) := by decide +kernel
theorem dX14_numberBehind_36 : decode cX14_numberBehind 36 = .ok (.iconst 5, 1) := by decide +kernel
theorem dX14_numberBehind_37 : decode cX14_numberBehind 37 = .ok (.invokevirtual 161, 3) := by decide +kernel
theorem dX14_numberBehind_40 : decode cX14_numberBehind 40 = .ok (.aload_n 0, 1) := by decide +kernel
theorem dX14_numberBehind_41 : decode cX14_numberBehind 41 = .ok (.bipush 41, 2) := by decide +kernel
theorem dX14_numberBehind_43 : decode cX14_numberBehind 43 = .ok (.invokevirtual 165, 3) := by decide +kernel
theorem dX14_numberBehind_46 : decode cX14_numberBehind 46 = .ok (.iload 4, 2) := by decide +kernel
theorem dX14_numberBehind_48 : decode cX14_numberBehind 48 = .ok (.ireturn, 1) := by decide +kernel
theorem dX14_newFront_0 : decode cX14_newFront 0 = .ok (.bipush 10, 2) := by decide +kernel
theorem dX14_newFront_2 : decode cX14_newFront 2 = .ok (.aload_n 0, 1) := by decide +kernel
theorem dX14_newFront_3 : decode cX14_newFront 3 = .ok (.getfield 42, 3) := by decide +kernel
theorem dX14_newFront_6 : decode cX14_newFront 6 = .ok (.getfield 168, 3) := by decide +kernel
theorem dX14_newFront_9 : decode cX14_newFront 9 = .ok (.invokestatic 60, 3) := by decide +kernel
theorem dX14_newFront_12 : decode cX14_newFront 12 = .ok (.istore_n 1, 1) := by decide +kernel
theorem dX14_newFront_13 : decode cX14_newFront 13 = .ok (.aload_n 0, 1) := by decide +kernel
theorem dX14_newFront_14 : decode cX14_newFront 14 = .ok (.aload_n 0, 1) := by decide +kernel
theorem dX14_newFront_15 : decode cX14_newFront 15 = .ok (.getfield 29, 3) := by decide +kernel
theorem dX14_newFront_18 : decode cX14_newFront 18 = .ok (.iload_n 1, 1) := by decide +kernel
theorem dX14_newFront_19 : decode cX14_newFront 19 = .ok (.invokevirtual 219, 3) := by decide +kernel
theorem dX14_newFront_22 : decode cX14_newFront 22 = .ok (.aload_n 0, 1) := by decide +kernel
theorem dX14_newFront_23 : decode cX14_newFront 23 = .ok (.iconst 1, 1) := by decide +kernel
theorem dX14_newFront_24 : decode cX14_newFront 24 = .ok (.invokevirtual 165, 3) := by decide +kernel
theorem dX14_newFront_27 : decode cX14_newFront 27 = .ok (.aload_n 0, 1) := by decide +kernel
theorem dX14_newFront_28 : decode cX14_newFront 28 = .ok (.iconst 3, 1) := by decide +kernel
theorem dX14_newFront_29 : decode cX14_newFront 29 = .ok (.invokevirtual 132, 3) := by decide +kernel
theorem dX14_newFront_32 : decode cX14_newFront 32 = .ok (.ifCond .eq 16, 3) := by decide +kernel
theorem dX14_newFront_35 : decode cX14_newFront 35 = .ok (.aload_n 0, 1) := by decide +kernel
theorem dX14_newFront_36 : decode cX14_newFront 36 = .ok (.getfield 42, 3) := by decide +kernel
theorem dX14_newFront_39 : decode cX14_newFront 39 = .ok (.getfield 223, 3) := by decide +kernel
theorem dX14_newFront_42 : decode cX14_newFront 42 = .ok (.iload_n 1, 1) := by decide +kernel
theorem dX14_newFront_43 : decode cX14_newFront 43 = .ok (.iconst 0, 1) := by decide +kernel
theorem dX14_newFront_44 : decode cX14_newFront 44 = .ok (.iastore, 1) := by decide +kernel
theorem dX14_newFront_45 : decode cX14_newFront 45 = .ok (.goto 28, 3) := by decide +kernel
theorem dX14_newFront_48 : decode cX14_newFront 48 = .ok (.aload_n 0, 1) := by decide +kernel
theorem dX14_newFront_49 : decode cX14_newFront 49 = .ok (.iconst 2, 1) := by decide +kernel
theorem dX14_newFront_50 : decode cX14_newFront 50 = .ok (.invokevirtual 132, 3) := by decide +kernel
theorem dX14_newFront_53 : decode cX14_newFront 53 = .ok (.ifCond .eq 16, 3) := by decide +kernel
theorem dX14_newFront_56 : decode cX14_newFront 56 = .ok (.aload_n 0, 1) := by decide +kernel
theorem dX14_newFront_57 : decode cX14_newFront 57 = .ok (.getfield 42, 3) := by decide +kernel
theorem dX14_newFront_60 : decode cX14_newFront 60 = .ok (.getfield 223, 3) := by decide +kernel
theorem dX14_newFront_63 : decode cX14_newFront 63 = .ok (.iload_n 1, 1) := by decide +kernel
theorem dX14_newFront_64 : decode cX14_newFront 64 = .ok (.iconst 1, 1) := by decide +kernel
theorem dX14_newFront_65 : decode cX14_newFront 65 = .ok (.iastore, 1) := by decide +kernel
theorem dX14_newFront_66 : decode cX14_newFront 66 = .ok (.goto 7, 3) := by decide +kernel
theorem dX14_newFront_69 : decode cX14_newFront 69 = .ok (.aload_n 0, 1) := by decide +kernel
theorem dX14_newFront_70 : decode cX14_newFront 70 = .ok (.invokevirtual 135, 3) := by decide +kernel
theorem dX14_newFront_73 : decode cX14_newFront 73 = .ok (.aload_n 0, 1) := by decide +kernel
theorem dX14_newFront_74 : decode cX14_newFront 74 = .ok (.getfield 119, 3) := by decide +kernel
theorem dX14_newFront_77 : decode cX14_newFront 77 = .ok (.ifCond .ne 13, 3) := by decide +kernel
theorem dX14_newFront_80 : decode cX14_newFront 80 = .ok (.aload_n 0, 1) := by decide +kernel
theorem dX14_newFront_81 : decode cX14_newFront 81 = .ok (.dup, 1) := by decide +kernel
theorem dX14_newFront_82 : decode cX14_newFront 82 = .ok (.getfield 123, 3) := by decide +kernel
theorem dX14_newFront_85 : decode cX14_newFront 85 = .ok (.iconst 1, 1) := by decide +kernel
theorem dX14_newFront_86 : decode cX14_newFront 86 = .ok (.iadd, 1) := by decide +kernel
theorem dX14_newFront_87 : decode cX14_newFront 87 = .ok (.putfield 123, 3) := by decide +kernel
theorem dX14_newFront_90 : decode cX14_newFront 90 = .ok (.aload_n 0, 1) := by decide +kernel
theorem dX14_newFront_91 : decode cX14_newFront 91 = .ok (.getfield 42, 3) := by decide +kernel
theorem dX14_newFront_94 : decode cX14_newFront 94 = .ok (.getfield 226, 3) := by decide +kernel
theorem dX14_newFront_97 : decode cX14_newFront 97 = .ok (.iload_n 1, 1) := by decide +kernel
theorem dX14_newFront_98 : decode cX14_newFront 98 = .ok (.aload_n 0, 1) := by decide +kernel
theorem dX14_newFront_99 : decode cX14_newFront 99 = .ok (.bipush 6, 2) := by decide +kernel
theorem dX14_newFront_101 : decode cX14_newFront 101 = .ok (.iconst 1, 1) := by decide +kernel
theorem dX14_newFront_102 : decode cX14_newFront 102 = .ok (.bipush 9, 2) := by decide +kernel
theorem dX14_newFront_104 : decode cX14_newFront 104 = .ok (.invokevirtual 229, 3) := by decide +kernel
theorem dX14_newFront_107 : decode cX14_newFront 107 = .ok (.iastore, 1) := by decide +kernel
theorem dX14_newFront_108 : decode cX14_newFront 108 = .ok (.aload_n 0, 1) := by decide +kernel
theorem dX14_newFront_109 : decode cX14_newFront 109 = .ok (.getfield 42, 3) := by decide +kernel
theorem dX14_newFront_112 : decode cX14_newFront 112 = .ok (.getfield 232, 3) := by decide +kernel
theorem dX14_newFront_115 : decode cX14_newFront 115 = .ok (.iload_n 1, 1) := by decide +kernel
theorem dX14_newFront_116 : decode cX14_newFront 116 = .ok (.aload_n 0, 1) := by decide +kernel
theorem dX14_newFront_117 : decode cX14_newFront 117 = .ok (.iconst 4, 1) := by decide +kernel
theorem dX14_newFront_118 : decode cX14_newFront 118 = .ok (.iconst 0, 1) := by decide +kernel
theorem dX14_newFront_119 : decode cX14_newFront 119 = .ok (.bipush 60, 2) := by decide +kernel
theorem dX14_newFront_121 : decode cX14_newFront 121 = .ok (.invokevirtual 229, 3) := by decide +kernel
theorem dX14_newFront_124 : decode cX14_newFront 124 = .ok (.iastore, 1) := by decide +kernel
theorem dX14_newFront_125 : decode cX14_newFront 125 = .ok (.aload_n 0, 1) := by decide +kernel
theorem dX14_newFront_126 : decode cX14_newFront 126 = .ok (.getfield 42, 3) := by decide +kernel
theorem dX14_newFront_129 : decode cX14_newFront 129 = .ok (.getfield 235, 3) := by decide +kernel
theorem dX14_newFront_132 : decode cX14_newFront 132 = .ok (.iload_n 1, 1) := by decide +kernel
theorem dX14_newFront_133 : decode cX14_newFront 133 = .ok (.aload_n 0, 1) := by decide +kernel
theorem dX14_newFront_134 : decode cX14_newFront 134 = .ok (.iconst 5, 1) := by decide +kernel
theorem dX14_newFront_135 : decode cX14_newFront 135 = .ok (.iconst 1, 1) := by decide +kernel
theorem dX14_newFront_136 : decode cX14_newFront 136 = .ok (.bipush 12, 2) := by decide +kernel
theorem dX14_newFront_138 : decode cX14_newFront 138 = .ok (.invokevirtual 229, 3) := by decide +kernel
theorem dX14_newFront_141 : decode cX14_newFront 141 = .ok (.iastore, 1) := by decide +kernel
theorem dX14_newFront_142 : decode cX14_newFront 142 = .ok (.aload_n 0, 1) := by decide +kernel
theorem dX14_newFront_143 : decode cX14_newFront 143 = .ok (.getfield 42, 3) := by decide +kernel
theorem dX14_newFront_146 : decode cX14_newFront 146 = .ok (.bipush 10, 2) := by decide +kernel
theorem dX14_newFront_148 : decode cX14_newFront 148 = .ok (.iload_n 1, 1) := by decide +kernel
theorem dX14_newFront_149 : decode cX14_newFront 149 = .ok (.iconst 1, 1) := by decide +kernel
theorem dX14_newFront_150 : decode cX14_newFront 150 = .ok (.iadd, 1) := by decide +kernel
theorem dX14_newFront_151 : decode cX14_newFront 151 = .ok (.invokestatic 60, 3) := by decide +kernel
theorem dX14_newFront_154 : decode cX14_newFront 154 = .ok (.putfield 168, 3) := by decide +kernel
theorem dX14_newFront_157 : decode cX14_newFront 157 = .ok (.return_, 1) := by decide +kernel
theorem dX14_newGuest_0 : decode cX14_newGuest 0 = .ok (.bipush 10, 2) := by decide +kernel
theorem dX14_newGuest_2 : decode cX14_newGuest 2 = .ok (.aload_n 0, 1) := by decide +kernel
theorem dX14_newGuest_3 : decode cX14_newGuest 3 = .ok (.getfield 42, 3) := by decide +kernel
theorem dX14_newGuest_6 : decode cX14_newGuest 6 = .ok (.getfield 174, 3) := by decide +kernel
theorem dX14_newGuest_9 : decode cX14_newGuest 9 = .ok (.invokestatic 60, 3) := by decide +kernel
theorem dX14_newGuest_12 : decode cX14_newGuest 12 = .ok (.istore_n 1, 1) := by decide +kernel
theorem dX14_newGuest_13 : decode cX14_newGuest 13 = .ok (.aload_n 0, 1) := by decide +kernel
theorem dX14_newGuest_14 : decode cX14_newGuest 14 = .ok (.aload_n 0, 1) := by decide +kernel
theorem dX14_newGuest_15 : decode cX14_newGuest 15 = .ok (.getfield 32, 3) := by decide +kernel
theorem dX14_newGuest_18 : decode cX14_newGuest 18 = .ok (.iload_n 1, 1) := by decide +kernel
theorem dX14_newGuest_19 : decode cX14_newGuest 19 = .ok (.invokevirtual 219, 3) := by decide +kernel
theorem dX14_newGuest_22 : decode cX14_newGuest 22 = .ok (.aload_n 0, 1) := by decide +kernel
theorem dX14_newGuest_23 : decode cX14_newGuest 23 = .ok (.getfield 42, 3) := by decide +kernel
theorem dX14_newGuest_26 : decode cX14_newGuest 26 = .ok (.getfield 238, 3) := by decide +kernel
theorem dX14_newGuest_29 : decode cX14_newGuest 29 = .ok (.iload_n 1, 1) := by decide +kernel
theorem dX14_newGuest_30 : decode cX14_newGuest 30 = .ok (.aload_n 0, 1) := by decide +kernel
theorem dX14_newGuest_31 : decode cX14_newGuest 31 = .ok (.iconst 4, 1) := by decide +kernel
theorem dX14_newGuest_32 : decode cX14_newGuest 32 = .ok (.iconst 0, 1) := by decide +kernel
theorem dX14_newGuest_33 : decode cX14_newGuest 33 = .ok (.bipush 60, 2) := by decide +kernel
theorem dX14_newGuest_35 : decode cX14_newGuest 35 = .ok (.invokevirtual 229, 3) := by decide +kernel
theorem dX14_newGuest_38 : decode cX14_newGuest 38 = .ok (.iastore, 1) := by decide +kernel
theorem dX14_newGuest_39 : decode cX14_newGuest 39 = .ok (.aload_n 0, 1) := by decide +kernel
theorem dX14_newGuest_40 : decode cX14_newGuest 40 = .ok (.getfield 42, 3) := by decide +kernel
theorem dX14_newGuest_43 : decode cX14_newGuest 43 = .ok (.getfield 241, 3) := by decide +kernel
theorem dX14_newGuest_46 : decode cX14_newGuest 46 = .ok (.iload_n 1, 1) := by decide +kernel
theorem dX14_newGuest_47 : decode cX14_newGuest 47 = .ok (.aload_n 0, 1) := by decide +kernel
theorem dX14_newGuest_48 : decode cX14_newGuest 48 = .ok (.bipush 8, 2) := by decide +kernel
theorem dX14_newGuest_50 : decode cX14_newGuest 50 = .ok (.iconst 0, 1) := by decide +kernel
theorem dX14_newGuest_51 : decode cX14_newGuest 51 = .ok (.bipush 30, 2) := by decide +kernel
theorem dX14_newGuest_53 : decode cX14_newGuest 53 = .ok (.invokevirtual 229, 3) := by decide +kernel
theorem dX14_newGuest_56 : decode cX14_newGuest 56 = .ok (.iastore, 1) := by decide +kernel
theorem dX14_newGuest_57 : decode cX14_newGuest 57 = .ok (.aload_n 0, 1) := by decide +kernel
theorem dX14_newGuest_58 : decode cX14_newGuest 58 = .ok (.getfield 42, 3) := by decide +kernel
theorem dX14_newGuest_61 : decode cX14_newGuest 61 = .ok (.getfield 244, 3) := by decide +kernel
theorem dX14_newGuest_64 : decode cX14_newGuest 64 = .ok (.iload_n 1, 1) := by decide +kernel
theorem dX14_newGuest_65 : decode cX14_newGuest 65 = .ok (.aload_n 0, 1) := by decide +kernel
theorem dX14_newGuest_66 : decode cX14_newGuest 66 = .ok (.bipush 9, 2) := by decide +kernel
theorem dX14_newGuest_68 : decode cX14_newGuest 68 = .ok (.aload_n 0, 1) := by decide +kernel
theorem dX14_newGuest_69 : decode cX14_newGuest 69 = .ok (.getfield 42, 3) := by decide +kernel
theorem dX14_newGuest_72 : decode cX14_newGuest 72 = .ok (.getfield 241, 3) := by decide +kernel
theorem dX14_newGuest_75 : decode cX14_newGuest 75 = .ok (.iload_n 1, 1) := by decide +kernel
theorem dX14_newGuest_76 : decode cX14_newGuest 76 = .ok (.iaload, 1) := by decide +kernel
theorem dX14_newGuest_77 : decode cX14_newGuest 77 = .ok (.bipush 30, 2) := by decide +kernel
theorem dX14_newGuest_79 : decode cX14_newGuest 79 = .ok (.invokevirtual 229, 3) := by decide +kernel
theorem dX14_newGuest_82 : decode cX14_newGuest 82 = .ok (.iastore, 1) := by decide +kernel
theorem dX14_newGuest_83 : decode cX14_newGuest 83 = .ok (.aload_n 0, 1) := by decide +kernel
theorem dX14_newGuest_84 : decode cX14_newGuest 84 = .ok (.getfield 42, 3) := by decide +kernel
theorem dX14_newGuest_87 : decode cX14_newGuest 87 = .ok (.getfield 247, 3) := by decide +kernel
theorem dX14_newGuest_90 : decode cX14_newGuest 90 = .ok (.iload_n 1, 1) := by decide +kernel
theorem dX14_newGuest_91 : decode cX14_newGuest 91 = .ok (.aload_n 0, 1) := by decide +kernel
theorem dX14_newGuest_92 : decode cX14_newGuest 92 = .ok (.bipush 10, 2) := by decide +kernel
theorem dX14_newGuest_94 : decode cX14_newGuest 94 = .ok (.iconst 0, 1) := by decide +kernel
theorem dX14_newGuest_95 : decode cX14_newGuest 95 = .ok (.bipush 20, 2) := by decide +kernel
theorem dX14_newGuest_97 : decode cX14_newGuest 97 = .ok (.invokevirtual 229, 3) := by decide +kernel
theorem dX14_newGuest_100 : decode cX14_newGuest 100 = .ok (.iastore, 1) := by decide +kernel
theorem dX14_newGuest_101 : decode cX14_newGuest 101 = .ok (.aload_n 0, 1) := by decide +kernel
theorem dX14_newGuest_102 : decode cX14_newGuest 102 = .ok (.getfield 42, 3) := by decide +kernel
theorem dX14_newGuest_105 : decode cX14_newGuest 105 = .ok (.bipush 10, 2) := by decide +kernel
theorem dX14_newGuest_107 : decode cX14_newGuest 107 = .ok (.iload_n 1, 1) := by decide +kernel
theorem dX14_newGuest_108 : decode cX14_newGuest 108 = .ok (.iconst 1, 1) := by decide +kernel
theorem dX14_newGuest_109 : decode cX14_newGuest 109 = .ok (.iadd, 1) := by decide +kernel
theorem dX14_newGuest_110 : decode cX14_newGuest 110 = .ok (.invokestatic 60, 3) := by decide +kernel
theorem dX14_newGuest_113 : decode cX14_newGuest 113 = .ok (.putfield 174, 3) := by decide +kernel
theorem dX14_newGuest_116 : decode cX14_newGuest 116 = .ok (.return_, 1) := by decide +kernel
theorem dX14_order_0 : decode cX14_order 0 = .ok (.bipush 16, 2) := by decide +kernel
theorem dX14_order_2 : decode cX14_order 2 = .ok (.aload_n 0, 1) := by decide +kernel
theorem dX14_order_3 : decode cX14_order 3 = .ok (.getfield 42, 3) := by decide +kernel
theorem dX14_order_6 : decode cX14_order 6 = .ok (.getfield 250, 3) := by decide +kernel
theorem dX14_order_9 : decode cX14_order 9 = .ok (.invokestatic 60, 3) := by decide +kernel
theorem dX14_order_12 : decode cX14_order 12 = .ok (.istore_n 2, 1) := by decide +kernel
theorem dX14_order_13 : decode cX14_order 13 = .ok (.iload_n 2, 1) := by decide +kernel
theorem dX14_order_14 : decode cX14_order 14 = .ok (.bipush 16, 2) := by decide +kernel
theorem dX14_order_16 : decode cX14_order 16 = .ok (.if_icmp .ne 8, 3) := by decide +kernel
theorem dX14_order_19 : decode cX14_order 19 = .ok (.aload_n 0, 1) := by decide +kernel
theorem dX14_order_20 : decode cX14_order 20 = .ok (.iconst 4, 1) := by decide +kernel
theorem dX14_order_21 : decode cX14_order 21 = .ok (.invokevirtual 161, 3) := by decide +kernel
theorem dX14_order_24 : decode cX14_order 24 = .ok (.aload_n 0, 1) := by decide +kernel
theorem dX14_order_25 : decode cX14_order 25 = .ok (.dup, 1) := by decide +kernel
theorem dX14_order_26 : decode cX14_order 26 = .ok (.getfield 123, 3) := by decide +kernel
theorem dX14_order_29 : decode cX14_order 29 = .ok (.iconst 1, 1) := by decide +kernel
theorem dX14_order_30 : decode cX14_order 30 = .ok (.iadd, 1) := by decide +kernel
theorem dX14_order_31 : decode cX14_order 31 = .ok (.putfield 123, 3) := by decide +kernel
theorem dX14_order_34 : decode cX14_order 34 = .ok (.aload_n 0, 1) := by decide +kernel
theorem dX14_order_35 : decode cX14_order 35 = .ok (.getfield 42, 3) := by decide +kernel
theorem dX14_order_38 : decode cX14_order 38 = .ok (.getfield 253, 3) := by decide +kernel
theorem dX14_order_41 : decode cX14_order 41 = .ok (.iload_n 2, 1) := by decide +kernel
theorem dX14_order_42 : decode cX14_order 42 = .ok (.iload_n 1, 1) := by decide +kernel
theorem dX14_order_43 : decode cX14_order 43 = .ok (.iastore, 1) := by decide +kernel
theorem dX14_order_44 : decode cX14_order 44 = .ok (.iload_n 1, 1) := by decide +kernel
theorem dX14_order_45 : decode cX14_order 45 = .ok (.bipush 11, 2) := by decide +kernel
theorem dX14_order_47 : decode cX14_order 47 = .ok (.if_icmp .ne 16, 3) := by decide +kernel
theorem dX14_order_50 : decode cX14_order 50 = .ok (.aload_n 0, 1) := by decide +kernel
theorem dX14_order_51 : decode cX14_order 51 = .ok (.getfield 42, 3) := by decide +kernel
theorem dX14_order_54 : decode cX14_order 54 = .ok (.getfield 256, 3) := by decide +kernel
theorem dX14_order_57 : decode cX14_order 57 = .ok (.iload_n 2, 1) := by decide +kernel
theorem dX14_order_58 : decode cX14_order 58 = .ok (.aload_n 0, 1) := by decide +kernel
theorem dX14_order_59 : decode cX14_order 59 = .ok (.invokevirtual 190, 3) := by decide +kernel
theorem dX14_order_62 : decode cX14_order 62 = .ok (.iastore, 1) := by decide +kernel
theorem dX14_order_63 : decode cX14_order 63 = .ok (.iload_n 1, 1) := by decide +kernel
theorem dX14_order_64 : decode cX14_order 64 = .ok (.bipush 14, 2) := by decide +kernel
theorem dX14_order_66 : decode cX14_order 66 = .ok (.if_icmp .ne 16, 3) := by decide +kernel
theorem dX14_order_69 : decode cX14_order 69 = .ok (.aload_n 0, 1) := by decide +kernel
theorem dX14_order_70 : decode cX14_order 70 = .ok (.getfield 42, 3) := by decide +kernel
theorem dX14_order_73 : decode cX14_order 73 = .ok (.getfield 256, 3) := by decide +kernel
theorem dX14_order_76 : decode cX14_order 76 = .ok (.iload_n 2, 1) := by decide +kernel
theorem dX14_order_77 : decode cX14_order 77 = .ok (.aload_n 0, 1) := by decide +kernel
theorem dX14_order_78 : decode cX14_order 78 = .ok (.invokevirtual 210, 3) := by decide +kernel
theorem dX14_order_81 : decode cX14_order 81 = .ok (.iastore, 1) := by decide +kernel
theorem dX14_order_82 : decode cX14_order 82 = .ok (.aload_n 0, 1) := by decide +kernel
theorem dX14_order_83 : decode cX14_order 83 = .ok (.getfield 42, 3) := by decide +kernel
theorem dX14_order_86 : decode cX14_order 86 = .ok (.getfield 259, 3) := by decide +kernel
theorem dX14_order_89 : decode cX14_order 89 = .ok (.iload_n 2, 1) := by decide +kernel
theorem dX14_order_90 : decode cX14_order 90 = .ok (.aload_n 0, 1) := by decide +kernel
theorem dX14_order_91 : decode cX14_order 91 = .ok (.getfield 42, 3) := by decide +kernel
theorem dX14_order_94 : decode cX14_order 94 = .ok (.getfield 141, 3) := by decide +kernel
theorem dX14_order_97 : decode cX14_order 97 = .ok (.iastore, 1) := by decide +kernel
theorem dX14_order_98 : decode cX14_order 98 = .ok (.aload_n 0, 1) := by decide +kernel
theorem dX14_order_99 : decode cX14_order 99 = .ok (.getfield 42, 3) := by decide +kernel
theorem dX14_order_102 : decode cX14_order 102 = .ok (.getfield 262, 3) := by decide +kernel
theorem dX14_order_105 : decode cX14_order 105 = .ok (.iload_n 2, 1) := by decide +kernel
theorem dX14_order_106 : decode cX14_order 106 = .ok (.aload_n 0, 1) := by decide +kernel
theorem dX14_order_107 : decode cX14_order 107 = .ok (.bipush 15, 2) := by decide +kernel
theorem dX14_order_109 : decode cX14_order 109 = .ok (.invokevirtual 187, 3) := by decide +kernel
theorem dX14_order_112 : decode cX14_order 112 = .ok (.ifCond .eq 10, 3) := by decide +kernel
theorem dX14_order_115 : decode cX14_order 115 = .ok (.aload_n 0, 1) := by decide +kernel
theorem dX14_order_116 : decode cX14_order 116 = .ok (.invokevirtual 207, 3) := by decide +kernel
theorem dX14_order_119 : decode cX14_order 119 = .ok (.goto 4, 3) := by decide +kernel
theorem dX14_order_122 : decode cX14_order 122 = .ok (.iconst (-1), 1) := by decide +kernel
theorem dX14_order_123 : decode cX14_order 123 = .ok (.iastore, 1) := by decide +kernel
theorem dX14_order_124 : decode cX14_order 124 = .ok (.aload_n 0, 1) := by decide +kernel
theorem dX14_order_125 : decode cX14_order 125 = .ok (.getfield 42, 3) := by decide +kernel
theorem dX14_order_128 : decode cX14_order 128 = .ok (.getfield 264, 3) := by decide +kernel
theorem dX14_order_131 : decode cX14_order 131 = .ok (.iload_n 2, 1) := by decide +kernel
theorem dX14_order_132 : decode cX14_order 132 = .ok (.aload_n 0, 1) := by decide +kernel
theorem dX14_order_133 : decode cX14_order 133 = .ok (.getfield 42, 3) := by decide +kernel
theorem dX14_order_136 : decode cX14_order 136 = .ok (.getfield 141, 3) := by decide +kernel
theorem dX14_order_139 : decode cX14_order 139 = .ok (.iastore, 1) := by decide +kernel
theorem dX14_order_140 : decode cX14_order 140 = .ok (.aload_n 0, 1) := by decide +kernel
theorem dX14_order_141 : decode cX14_order 141 = .ok (.getfield 42, 3) := by decide +kernel
theorem dX14_order_144 : decode cX14_order 144 = .ok (.bipush 16, 2) := by decide +kernel
theorem dX14_order_146 : decode cX14_order 146 = .ok (.iload_n 2, 1) := by decide +kernel
theorem dX14_order_147 : decode cX14_order 147 = .ok (.iconst 1, 1) := by decide +kernel
theorem dX14_order_148 : decode cX14_order 148 = .ok (.iadd, 1) := by decide +kernel
theorem dX14_order_149 : decode cX14_order 149 = .ok (.invokestatic 60, 3) := by decide +kernel
theorem dX14_order_152 : decode cX14_order 152 = .ok (.putfield 250, 3) := by decide +kernel
theorem dX14_order_155 : decode cX14_order 155 = .ok (.return_, 1) := by decide +kernel
theorem dX14_line_0 : decode cX14_line 0 = .ok (.aload_n 0, 1) := by decide +kernel
theorem dX14_line_1 : decode cX14_line 1 = .ok (.iconst 0, 1) := by decide +kernel
theorem dX14_line_2 : decode cX14_line 2 = .ok (.invokevirtual 187, 3) := by decide +kernel
theorem dX14_line_5 : decode cX14_line 5 = .ok (.ifCond .eq 10, 3) := by decide +kernel
theorem dX14_line_8 : decode cX14_line 8 = .ok (.aload_n 0, 1) := by decide +kernel
theorem dX14_line_9 : decode cX14_line 9 = .ok (.invokevirtual 267, 3) := by decide +kernel
theorem dX14_line_12 : decode cX14_line 12 = .ok (.goto 65, 3) := by decide +kernel
theorem dX14_line_15 : decode cX14_line 15 = .ok (.aload_n 0, 1) := by decide +kernel
theorem dX14_line_16 : decode cX14_line 16 = .ok (.bipush 7, 2) := by decide +kernel
theorem dX14_line_18 : decode cX14_line 18 = .ok (.invokevirtual 187, 3) := by decide +kernel
theorem dX14_line_21 : decode cX14_line 21 = .ok (.ifCond .eq 10, 3) := by decide +kernel
theorem dX14_line_24 : decode cX14_line 24 = .ok (.aload_n 0, 1) := by decide +kernel
theorem dX14_line_25 : decode cX14_line 25 = .ok (.invokevirtual 270, 3) := by decide +kernel
theorem dX14_line_28 : decode cX14_line 28 = .ok (.goto 49, 3) := by decide +kernel
theorem dX14_line_31 : decode cX14_line 31 = .ok (.aload_n 0, 1) := by decide +kernel
theorem dX14_line_32 : decode cX14_line 32 = .ok (.getfield 119, 3) := by decide +kernel
theorem dX14_line_35 : decode cX14_line 35 = .ok (.ifCond .ne 38, 3) := by decide +kernel
theorem dX14_line_38 : decode cX14_line 38 = .ok (.aload_n 0, 1) := by decide +kernel
theorem dX14_line_39 : decode cX14_line 39 = .ok (.getfield 17, 3) := by decide +kernel
theorem dX14_line_42 : decode cX14_line 42 = .ok (.aload_n 0, 1) := by decide +kernel
theorem dX14_line_43 : decode cX14_line 43 = .ok (.getfield 123, 3) := by decide +kernel
theorem dX14_line_46 : decode cX14_line 46 = .ok (.iaload, 1) := by decide +kernel
theorem dX14_line_47 : decode cX14_line 47 = .ok (.bipush 11, 2) := by decide +kernel
theorem dX14_line_49 : decode cX14_line 49 = .ok (.bipush 14, 2) := by decide +kernel
theorem dX14_line_51 : decode cX14_line 51 = .ok (.invokestatic 72, 3) := by decide +kernel
theorem dX14_line_54 : decode cX14_line 54 = .ok (.ifCond .eq 19, 3) := by decide +kernel
theorem dX14_line_57 : decode cX14_line 57 = .ok (.aload_n 0, 1) := by decide +kernel
theorem dX14_line_58 : decode cX14_line 58 = .ok (.aload_n 0, 1) := by decide +kernel
theorem dX14_line_59 : decode cX14_line 59 = .ok (.getfield 17, 3) := by decide +kernel
theorem dX14_line_62 : decode cX14_line 62 = .ok (.aload_n 0, 1) := by decide +kernel
theorem dX14_line_63 : decode cX14_line 63 = .ok (.getfield 123, 3) := by decide +kernel
theorem dX14_line_66 : decode cX14_line 66 = .ok (.iaload, 1) := by decide +kernel
theorem dX14_line_67 : decode cX14_line 67 = .ok (.invokevirtual 273, 3) := by decide +kernel
theorem dX14_line_70 : decode cX14_line 70 = .ok (.goto 7, 3) := by decide +kernel
theorem dX14_line_73 : decode cX14_line 73 = .ok (.aload_n 0, 1) := by decide +kernel
theorem dX14_line_74 : decode cX14_line 74 = .ok (.invokevirtual 135, 3) := by decide +kernel
theorem dX14_line_77 : decode cX14_line 77 = .ok (.return_, 1) := by decide +kernel
theorem dX14_feed_0 : decode cX14_feed 0 = .ok (.aload_n 0, 1) := by decide +kernel
theorem dX14_feed_1 : decode cX14_feed 1 = .ok (.iconst 0, 1) := by decide +kernel
theorem dX14_feed_2 : decode cX14_feed 2 = .ok (.putfield 57, 3) := by decide +kernel
theorem dX14_feed_5 : decode cX14_feed 5 = .ok (.aload_n 0, 1) := by decide +kernel
theorem dX14_feed_6 : decode cX14_feed 6 = .ok (.getfield 76, 3) := by decide +kernel
theorem dX14_feed_9 : decode cX14_feed 9 = .ok (.bipush 20, 2) := by decide +kernel
theorem dX14_feed_11 : decode cX14_feed 11 = .ok (.iadd, 1) := by decide +kernel
theorem dX14_feed_12 : decode cX14_feed 12 = .ok (.sipush 2000, 3) := by decide +kernel
theorem dX14_feed_15 : decode cX14_feed 15 = .ok (.if_icmp .le 9, 3) := by decide +kernel
theorem dX14_feed_18 : decode cX14_feed 18 = .ok (.aload_n 0, 1) := by decide +kernel
theorem dX14_feed_19 : decode cX14_feed 19 = .ok (.iconst 1, 1) := by decide +kernel
theorem dX14_feed_20 : decode cX14_feed 20 = .ok (.invokevirtual 276, 3) := by decide +kernel
theorem dX14_feed_23 : decode cX14_feed 23 = .ok (.ireturn, 1) := by decide +kernel
theorem dX14_feed_24 : decode cX14_feed 24 = .ok (.iconst 5, 1) := by decide +kernel
theorem dX14_feed_25 : decode cX14_feed 25 = .ok (.newarray .int, 2) := by decide +kernel
theorem dX14_feed_27 : decode cX14_feed 27 = .ok (.dup, 1) := by decide +kernel
theorem dX14_feed_28 : decode cX14_feed 28 = .ok (.iconst 0, 1) := by decide +kernel
theorem dX14_feed_29 : decode cX14_feed 29 = .ok (.iload_n 1, 1) := by decide +kernel
theorem dX14_feed_30 : decode cX14_feed 30 = .ok (.iastore, 1) := by decide +kernel
theorem dX14_feed_31 : decode cX14_feed 31 = .ok (.dup, 1) := by decide +kernel
theorem dX14_feed_32 : decode cX14_feed 32 = .ok (.iconst 1, 1) := by decide +kernel
theorem dX14_feed_33 : decode cX14_feed 33 = .ok (.iload_n 2, 1) := by decide +kernel
theorem dX14_feed_34 : decode cX14_feed 34 = .ok (.iastore, 1) := by decide +kernel
theorem dX14_feed_35 : decode cX14_feed 35 = .ok (.dup, 1) := by decide +kernel
theorem dX14_feed_36 : decode cX14_feed 36 = .ok (.iconst 2, 1) := by decide +kernel
theorem dX14_feed_37 : decode cX14_feed 37 = .ok (.iload_n 3, 1) := by decide +kernel
theorem dX14_feed_38 : decode cX14_feed 38 = .ok (.iastore, 1) := by decide +kernel
theorem dX14_feed_39 : decode cX14_feed 39 = .ok (.dup, 1) := by decide +kernel
theorem dX14_feed_40 : decode cX14_feed 40 = .ok (.iconst 3, 1) := by decide +kernel
theorem dX14_feed_41 : decode cX14_feed 41 = .ok (.iload 4, 2) := by decide +kernel
theorem dX14_feed_43 : decode cX14_feed 43 = .ok (.iastore, 1) := by decide +kernel
theorem dX14_feed_44 : decode cX14_feed 44 = .ok (.dup, 1) := by decide +kernel
theorem dX14_feed_45 : decode cX14_feed 45 = .ok (.iconst 4, 1) := by decide +kernel
theorem dX14_feed_46 : decode cX14_feed 46 = .ok (.iload 5, 2) := by decide +kernel
theorem dX14_feed_48 : decode cX14_feed 48 = .ok (.iastore, 1) := by decide +kernel
theorem dX14_feed_49 : decode cX14_feed 49 = .ok (.astore 6, 2) := by decide +kernel
theorem dX14_feed_51 : decode cX14_feed 51 = .ok (.aload 6, 2) := by decide +kernel
theorem dX14_feed_53 : decode cX14_feed 53 = .ok (.astore 7, 2) := by decide +kernel
