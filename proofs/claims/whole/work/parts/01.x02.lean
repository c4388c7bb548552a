theorem dX4_run_313 : decode cX4_run 313 = .ok (.iload 7, 2) := by decide +kernel
theorem dX4_run_315 : decode cX4_run 315 = .ok (.iload_n 3, 1) := by decide +kernel
theorem dX4_run_316 : decode cX4_run 316 = .ok (.iload 8, 2) := by decide +kernel
theorem dX4_run_318 : decode cX4_run 318 = .ok (.invokevirtual 35, 3) := by decide +kernel
theorem dX4_run_321 : decode cX4_run 321 = .ok (.iconst 5, 1) := by decide +kernel
theorem dX4_run_322 : decode cX4_run 322 = .ok (.ixor, 1) := by decide +kernel
theorem dX4_run_323 : decode cX4_run 323 = .ok (.ireturn, 1) := by decide +kernel
theorem dX4_run_324 : decode cX4_run 324 = .ok (.aload_n 0, 1) := by decide +kernel
theorem dX4_run_325 : decode cX4_run 325 = .ok (.iconst 1, 1) := by decide +kernel
theorem dX4_run_326 : decode cX4_run 326 = .ok (.iload 7, 2) := by decide +kernel
theorem dX4_run_328 : decode cX4_run 328 = .ok (.iload_n 3, 1) := by decide +kernel
theorem dX4_run_329 : decode cX4_run 329 = .ok (.iload 8, 2) := by decide +kernel
theorem dX4_run_331 : decode cX4_run 331 = .ok (.invokevirtual 35, 3) := by decide +kernel
theorem dX4_run_334 : decode cX4_run 334 = .ok (.aload_n 0, 1) := by decide +kernel
theorem dX4_run_335 : decode cX4_run 335 = .ok (.iconst 2, 1) := by decide +kernel
theorem dX4_run_336 : decode cX4_run 336 = .ok (.iload 6, 2) := by decide +kernel
theorem dX4_run_338 : decode cX4_run 338 = .ok (.iconst 2, 1) := by decide +kernel
theorem dX4_run_339 : decode cX4_run 339 = .ok (.iload 8, 2) := by decide +kernel
theorem dX4_run_341 : decode cX4_run 341 = .ok (.invokevirtual 35, 3) := by decide +kernel
theorem dX4_run_344 : decode cX4_run 344 = .ok (.iadd, 1) := by decide +kernel
theorem dX4_run_345 : decode cX4_run 345 = .ok (.ireturn, 1) := by decide +kernel
theorem dX4_run_346 : decode cX4_run 346 = .ok (.aload_n 0, 1) := by decide +kernel
theorem dX4_run_347 : decode cX4_run 347 = .ok (.iconst 3, 1) := by decide +kernel
theorem dX4_run_348 : decode cX4_run 348 = .ok (.iload 7, 2) := by decide +kernel
theorem dX4_run_350 : decode cX4_run 350 = .ok (.iload_n 3, 1) := by decide +kernel
theorem dX4_run_351 : decode cX4_run 351 = .ok (.iload 8, 2) := by decide +kernel
theorem dX4_run_353 : decode cX4_run 353 = .ok (.invokevirtual 35, 3) := by decide +kernel
theorem dX4_run_356 : decode cX4_run 356 = .ok (.iconst 1, 1) := by decide +kernel
theorem dX4_run_357 : decode cX4_run 357 = .ok (.isub, 1) := by decide +kernel
theorem dX4_run_358 : decode cX4_run 358 = .ok (.ireturn, 1) := by decide +kernel
theorem dX4_run_359 : decode cX4_run 359 = .ok (.iconst 0, 1) := by decide +kernel
theorem dX4_run_360 : decode cX4_run 360 = .ok (.ireturn, 1) := by decide +kernel
theorem dX4_holder_0 : decode cX4_holder 0 = .ok (.iload_n 1, 1) := by decide +kernel
theorem dX4_holder_1 : decode cX4_holder 1 = .ok (.istore_n 2, 1) := by decide +kernel
theorem dX4_holder_2 : decode cX4_holder 2 = .ok (.iconst 0, 1) := by decide +kernel
theorem dX4_holder_3 : decode cX4_holder 3 = .ok (.istore_n 3, 1) := by decide +kernel
theorem dX4_holder_4 : decode cX4_holder 4 = .ok (.iload_n 3, 1) := by decide +kernel
theorem dX4_holder_5 : decode cX4_holder 5 = .ok (.bipush 8, 2) := by decide +kernel
theorem dX4_holder_7 : decode cX4_holder 7 = .ok (.if_icmp .ge 31, 3) := by decide +kernel
theorem dX4_holder_10 : decode cX4_holder 10 = .ok (.iload_n 2, 1) := by decide +kernel
theorem dX4_holder_11 : decode cX4_holder 11 = .ok (.ifCond .le 27, 3) := by decide +kernel
theorem dX4_holder_14 : decode cX4_holder 14 = .ok (.getstatic 43, 3) := by decide +kernel
theorem dX4_holder_17 : decode cX4_holder 17 = .ok (.iload_n 2, 1) := by decide +kernel
theorem dX4_holder_18 : decode cX4_holder 18 = .ok (.iconst 4, 1) := by decide +kernel
theorem dX4_holder_19 : decode cX4_holder 19 = .ok (.imul, 1) := by decide +kernel
theorem dX4_holder_20 : decode cX4_holder 20 = .ok (.iload_n 0, 1) := by decide +kernel
theorem dX4_holder_21 : decode cX4_holder 21 = .ok (.iadd, 1) := by decide +kernel
theorem dX4_holder_22 : decode cX4_holder 22 = .ok (.iaload, 1) := by decide +kernel
theorem dX4_holder_23 : decode cX4_holder 23 = .ok (.ifCond .ne 15, 3) := by decide +kernel
theorem dX4_holder_26 : decode cX4_holder 26 = .ok (.getstatic 25, 3) := by decide +kernel
theorem dX4_holder_29 : decode cX4_holder 29 = .ok (.iload_n 2, 1) := by decide +kernel
theorem dX4_holder_30 : decode cX4_holder 30 = .ok (.iaload, 1) := by decide +kernel
theorem dX4_holder_31 : decode cX4_holder 31 = .ok (.istore_n 2, 1) := by decide +kernel
theorem dX4_holder_32 : decode cX4_holder 32 = .ok (.iinc 3 1, 3) := by decide +kernel
theorem dX4_holder_35 : decode cX4_holder 35 = .ok (.goto (-31), 3) := by decide +kernel
theorem dX4_holder_38 : decode cX4_holder 38 = .ok (.iload_n 2, 1) := by decide +kernel
theorem dX4_holder_39 : decode cX4_holder 39 = .ok (.iconst 0, 1) := by decide +kernel
theorem dX4_holder_40 : decode cX4_holder 40 = .ok (.invokestatic 50, 3) := by decide +kernel
theorem dX4_holder_43 : decode cX4_holder 43 = .ok (.ireturn, 1) := by decide +kernel
theorem dX4_note_0 : decode cX4_note 0 = .ok (.aload_n 0, 1) := by decide +kernel
theorem dX4_note_1 : decode cX4_note 1 = .ok (.getfield 22, 3) := by decide +kernel
theorem dX4_note_4 : decode cX4_note 4 = .ok (.bipush 24, 2) := by decide +kernel
theorem dX4_note_6 : decode cX4_note 6 = .ok (.if_icmp .ge 13, 3) := by decide +kernel
theorem dX4_note_9 : decode cX4_note 9 = .ok (.aload_n 0, 1) := by decide +kernel
theorem dX4_note_10 : decode cX4_note 10 = .ok (.getfield 15, 3) := by decide +kernel
theorem dX4_note_13 : decode cX4_note 13 = .ok (.aload_n 0, 1) := by decide +kernel
theorem dX4_note_14 : decode cX4_note 14 = .ok (.getfield 22, 3) := by decide +kernel
theorem dX4_note_17 : decode cX4_note 17 = .ok (.iload_n 1, 1) := by decide +kernel
theorem dX4_note_18 : decode cX4_note 18 = .ok (.iastore, 1) := by decide +kernel
theorem dX4_note_19 : decode cX4_note 19 = .ok (.aload_n 0, 1) := by decide +kernel
theorem dX4_note_20 : decode cX4_note 20 = .ok (.dup, 1) := by decide +kernel
theorem dX4_note_21 : decode cX4_note 21 = .ok (.getfield 22, 3) := by decide +kernel
theorem dX4_note_24 : decode cX4_note 24 = .ok (.iconst 1, 1) := by decide +kernel
theorem dX4_note_25 : decode cX4_note 25 = .ok (.iadd, 1) := by decide +kernel
theorem dX4_note_26 : decode cX4_note 26 = .ok (.putfield 22, 3) := by decide +kernel
theorem dX4_note_29 : decode cX4_note 29 = .ok (.return_, 1) := by decide +kernel
theorem dX5_init_0 : decode cX5_init 0 = .ok (.aload_n 0, 1) := by decide +kernel
theorem dX5_init_1 : decode cX5_init 1 = .ok (.invokespecial 5, 3) := by decide +kernel
theorem dX5_init_4 : decode cX5_init 4 = .ok (.aload_n 0, 1) := by decide +kernel
theorem dX5_init_5 : decode cX5_init 5 = .ok (.sipush 2001, 3) := by decide +kernel
theorem dX5_init_8 : decode cX5_init 8 = .ok (.newarray .long, 2) := by decide +kernel
theorem dX5_init_10 : decode cX5_init 10 = .ok (.putfield 13, 3) := by decide +kernel
theorem dX5_init_13 : decode cX5_init 13 = .ok (.aload_n 0, 1) := by decide +kernel
theorem dX5_init_14 : decode cX5_init 14 = .ok (.aload_n 1, 1) := by decide +kernel
theorem dX5_init_15 : decode cX5_init 15 = .ok (.putfield 17, 3) := by decide +kernel
theorem dX5_init_18 : decode cX5_init 18 = .ok (.aload_n 0, 1) := by decide +kernel
theorem dX5_init_19 : decode cX5_init 19 = .ok (.aload_n 2, 1) := by decide +kernel
theorem dX5_init_20 : decode cX5_init 20 = .ok (.putfield 21, 3) := by decide +kernel
theorem dX5_init_23 : decode cX5_init 23 = .ok (.return_, 1) := by decide +kernel
theorem dX5_isWorth_0 : decode cX5_isWorth 0 = .ok (.iload_n 0, 1) := by decide +kernel
theorem dX5_isWorth_1 : decode cX5_isWorth 1 = .ok (.iconst 1, 1) := by decide +kernel
theorem dX5_isWorth_2 : decode cX5_isWorth 2 = .ok (.sipush 999, 3) := by decide +kernel
theorem dX5_isWorth_5 : decode cX5_isWorth 5 = .ok (.invokestatic 25, 3) := by decide +kernel
theorem dX5_isWorth_8 : decode cX5_isWorth 8 = .ok (.ireturn, 1) := by decide +kernel
theorem dX5_isNumber_0 : decode cX5_isNumber 0 = .ok (.iload_n 0, 1) := by decide +kernel
theorem dX5_isNumber_1 : decode cX5_isNumber 1 = .ok (.iconst 0, 1) := by decide +kernel
theorem dX5_isNumber_2 : decode cX5_isNumber 2 = .ok (.bipush 9, 2) := by decide +kernel
theorem dX5_isNumber_4 : decode cX5_isNumber 4 = .ok (.invokestatic 25, 3) := by decide +kernel
theorem dX5_isNumber_7 : decode cX5_isNumber 7 = .ok (.ireturn, 1) := by decide +kernel
theorem dX5_size_0 : decode cX5_size 0 = .ok (.aload_n 0, 1) := by decide +kernel
theorem dX5_size_1 : decode cX5_size 1 = .ok (.getfield 29, 3) := by decide +kernel
theorem dX5_size_4 : decode cX5_size 4 = .ok (.ireturn, 1) := by decide +kernel
theorem dX5_take_0 : decode cX5_take 0 = .ok (.aload_n 0, 1) := by decide +kernel
theorem dX5_take_1 : decode cX5_take 1 = .ok (.getfield 29, 3) := by decide +kernel
theorem dX5_take_4 : decode cX5_take 4 = .ok (.bipush 16, 2) := by decide +kernel
theorem dX5_take_6 : decode cX5_take 6 = .ok (.if_icmp .ne 6, 3) := by decide +kernel
theorem dX5_take_9 : decode cX5_take 9 = .ok (.bipush (-3), 2) := by decide +kernel
theorem dX5_take_11 : decode cX5_take 11 = .ok (.ireturn, 1) := by decide +kernel
theorem dX5_take_12 : decode cX5_take 12 = .ok (.aload_n 0, 1) := by decide +kernel
theorem dX5_take_13 : decode cX5_take 13 = .ok (.getfield 21, 3) := by decide +kernel
theorem dX5_take_16 : decode cX5_take 16 = .ok (.bipush 64, 2) := by decide +kernel
theorem dX5_take_18 : decode cX5_take 18 = .ok (.aload_n 0, 1) := by decide +kernel
theorem dX5_take_19 : decode cX5_take 19 = .ok (.getfield 29, 3) := by decide +kernel
theorem dX5_take_22 : decode cX5_take 22 = .ok (.iadd, 1) := by decide +kernel
theorem dX5_take_23 : decode cX5_take 23 = .ok (.iload_n 1, 1) := by decide +kernel
theorem dX5_take_24 : decode cX5_take 24 = .ok (.invokevirtual 35, 3) := by decide +kernel
theorem dX5_take_27 : decode cX5_take 27 = .ok (.aload_n 0, 1) := by decide +kernel
theorem dX5_take_28 : decode cX5_take 28 = .ok (.getfield 21, 3) := by decide +kernel
theorem dX5_take_31 : decode cX5_take 31 = .ok (.bipush 80, 2) := by decide +kernel
theorem dX5_take_33 : decode cX5_take 33 = .ok (.aload_n 0, 1) := by decide +kernel
theorem dX5_take_34 : decode cX5_take 34 = .ok (.getfield 29, 3) := by decide +kernel
theorem dX5_take_37 : decode cX5_take 37 = .ok (.iadd, 1) := by decide +kernel
theorem dX5_take_38 : decode cX5_take 38 = .ok (.iload_n 2, 1) := by decide +kernel
theorem dX5_take_39 : decode cX5_take 39 = .ok (.invokevirtual 35, 3) := by decide +kernel
theorem dX5_take_42 : decode cX5_take 42 = .ok (.aload_n 0, 1) := by decide +kernel
theorem dX5_take_43 : decode cX5_take 43 = .ok (.dup, 1) := by decide +kernel
theorem dX5_take_44 : decode cX5_take 44 = .ok (.getfield 29, 3) := by decide +kernel
theorem dX5_take_47 : decode cX5_take 47 = .ok (.iconst 1, 1) := by decide +kernel
theorem dX5_take_48 : decode cX5_take 48 = .ok (.iadd, 1) := by decide +kernel
theorem dX5_take_49 : decode cX5_take 49 = .ok (.putfield 29, 3) := by decide +kernel
theorem dX5_take_52 : decode cX5_take 52 = .ok (.aload_n 0, 1) := by decide +kernel
theorem dX5_take_53 : decode cX5_take 53 = .ok (.getfield 29, 3) := by decide +kernel
theorem dX5_take_56 : decode cX5_take 56 = .ok (.iconst 1, 1) := by decide +kernel
theorem dX5_take_57 : decode cX5_take 57 = .ok (.isub, 1) := by decide +kernel
theorem dX5_take_58 : decode cX5_take 58 = .ok (.ireturn, 1) := by decide +kernel
theorem dX5_fewestFor_0 : decode cX5_fewestFor 0 = .ok (.aload_n 0, 1) := by decide +kernel
theorem dX5_fewestFor_1 : decode cX5_fewestFor 1 = .ok (.getfield 13, 3) := by decide +kernel
theorem dX5_fewestFor_4 : decode cX5_fewestFor 4 = .ok (.ldc2_w 39, 3) := by decide +kernel
theorem dX5_fewestFor_7 : decode cX5_fewestFor 7 = .ok (.invokestatic 41, 3) := by decide +kernel
theorem dX5_fewestFor_10 : decode cX5_fewestFor 10 = .ok (.aload_n 0, 1) := by decide +kernel
theorem dX5_fewestFor_11 : decode cX5_fewestFor 11 = .ok (.getfield 13, 3) := by decide +kernel
theorem dX5_fewestFor_14 : decode cX5_fewestFor 14 = .ok (.iconst 0, 1) := by decide +kernel
theorem dX5_fewestFor_15 : decode cX5_fewestFor 15 = .ok (.lconst 0, 1) := by decide +kernel
theorem dX5_fewestFor_16 : decode cX5_fewestFor 16 = .ok (.lastore, 1) := by decide +kernel
theorem dX5_fewestFor_17 : decode cX5_fewestFor 17 = .ok (.ldc2_w 47, 3) := by decide +kernel
theorem dX5_fewestFor_20 : decode cX5_fewestFor 20 = .ok (.lstore_n 2, 1) := by decide +kernel
theorem dX5_fewestFor_21 : decode cX5_fewestFor 21 = .ok (.iconst 0, 1) := by decide +kernel
theorem dX5_fewestFor_22 : decode cX5_fewestFor 22 = .ok (.istore 4, 2) := by decide +kernel
theorem dX5_fewestFor_24 : decode cX5_fewestFor 24 = .ok (.iload 4, 2) := by decide +kernel
theorem dX5_fewestFor_26 : decode cX5_fewestFor 26 = .ok (.aload_n 0, 1) := by decide +kernel
theorem dX5_fewestFor_27 : decode cX5_fewestFor 27 = .ok (.getfield 29, 3) := by decide +kernel
theorem dX5_fewestFor_30 : decode cX5_fewestFor 30 = .ok (.if_icmp .ge 66, 3) := by decide +kernel
theorem dX5_fewestFor_33 : decode cX5_fewestFor 33 = .ok (.lload_n 2, 1) := by decide +kernel
theorem dX5_fewestFor_34 : decode cX5_fewestFor 34 = .ok (.ldc2_w 49, 3) := by decide +kernel
theorem dX5_fewestFor_37 : decode cX5_fewestFor 37 = .ok (.ldiv, 1) := by decide +kernel
theorem dX5_fewestFor_38 : decode cX5_fewestFor 38 = .ok (.lstore_n 2, 1) := by decide +kernel
theorem dX5_fewestFor_39 : decode cX5_fewestFor 39 = .ok (.aload_n 0, 1) := by decide +kernel
theorem dX5_fewestFor_40 : decode cX5_fewestFor 40 = .ok (.getfield 21, 3) := by decide +kernel
theorem dX5_fewestFor_43 : decode cX5_fewestFor 43 = .ok (.bipush 64, 2) := by decide +kernel
theorem dX5_fewestFor_45 : decode cX5_fewestFor 45 = .ok (.iload 4, 2) := by decide +kernel
theorem dX5_fewestFor_47 : decode cX5_fewestFor 47 = .ok (.iadd, 1) := by decide +kernel
theorem dX5_fewestFor_48 : decode cX5_fewestFor 48 = .ok (.invokevirtual 51, 3) := by decide +kernel
theorem dX5_fewestFor_51 : decode cX5_fewestFor 51 = .ok (.istore 5, 2) := by decide +kernel
theorem dX5_fewestFor_53 : decode cX5_fewestFor 53 = .ok (.aload_n 0, 1) := by decide +kernel
theorem dX5_fewestFor_54 : decode cX5_fewestFor 54 = .ok (.getfield 17, 3) := by decide +kernel
theorem dX5_fewestFor_57 : decode cX5_fewestFor 57 = .ok (.iload 5, 2) := by decide +kernel
theorem dX5_fewestFor_59 : decode cX5_fewestFor 59 = .ok (.i2l, 1) := by decide +kernel
theorem dX5_fewestFor_60 : decode cX5_fewestFor 60 = .ok (.invokevirtual 55, 3) := by decide +kernel
theorem dX5_fewestFor_63 : decode cX5_fewestFor 63 = .ok (.ifCond .eq 27, 3) := by decide +kernel
theorem dX5_fewestFor_66 : decode cX5_fewestFor 66 = .ok (.aload_n 0, 1) := by decide +kernel
theorem dX5_fewestFor_67 : decode cX5_fewestFor 67 = .ok (.iload 5, 2) := by decide +kernel
theorem dX5_fewestFor_69 : decode cX5_fewestFor 69 = .ok (.aload_n 0, 1) := by decide +kernel
theorem dX5_fewestFor_70 : decode cX5_fewestFor 70 = .ok (.getfield 21, 3) := by decide +kernel
theorem dX5_fewestFor_73 : decode cX5_fewestFor 73 = .ok (.bipush 80, 2) := by decide +kernel
theorem dX5_fewestFor_75 : decode cX5_fewestFor 75 = .ok (.iload 4, 2) := by decide +kernel
theorem dX5_fewestFor_77 : decode cX5_fewestFor 77 = .ok (.iadd, 1) := by decide +kernel
theorem dX5_fewestFor_78 : decode cX5_fewestFor 78 = .ok (.invokevirtual 51, 3) := by decide +kernel
theorem dX5_fewestFor_81 : decode cX5_fewestFor 81 = .ok (.ldc2_w 47, 3) := by decide +kernel
theorem dX5_fewestFor_84 : decode cX5_fewestFor 84 = .ok (.lload_n 2, 1) := by decide +kernel
theorem dX5_fewestFor_85 : decode cX5_fewestFor 85 = .ok (.lsub, 1) := by decide +kernel
theorem dX5_fewestFor_86 : decode cX5_fewestFor 86 = .ok (.iload_n 1, 1) := by decide +kernel
theorem dX5_fewestFor_87 : decode cX5_fewestFor 87 = .ok (.invokevirtual 61, 3) := by decide +kernel
theorem dX5_fewestFor_90 : decode cX5_fewestFor 90 = .ok (.iinc 4 1, 3) := by decide +kernel
theorem dX5_fewestFor_93 : decode cX5_fewestFor 93 = .ok (.goto (-69), 3) := by decide +kernel
theorem dX5_fewestFor_96 : decode cX5_fewestFor 96 = .ok (.aload_n 0, 1) := by decide +kernel
theorem dX5_fewestFor_97 : decode cX5_fewestFor 97 = .ok (.getfield 13, 3) := by decide +kernel
theorem dX5_fewestFor_100 : decode cX5_fewestFor 100 = .ok (.iload_n 1, 1) := by decide +kernel
theorem dX5_fewestFor_101 : decode cX5_fewestFor 101 = .ok (.laload, 1) := by decide +kernel
theorem dX5_fewestFor_102 : decode cX5_fewestFor 102 = .ok (.ldc2_w 39, 3) := by decide +kernel
theorem dX5_fewestFor_105 : decode cX5_fewestFor 105 = .ok (.lcmp, 1) := by decide +kernel
theorem dX5_fewestFor_106 : decode cX5_fewestFor 106 = .ok (.ifCond .ge 11, 3) := by decide +kernel
theorem dX5_fewestFor_109 : decode cX5_fewestFor 109 = .ok (.aload_n 0, 1) := by decide +kernel
theorem dX5_fewestFor_110 : decode cX5_fewestFor 110 = .ok (.iload_n 1, 1) := by decide +kernel
theorem dX5_fewestFor_111 : decode cX5_fewestFor 111 = .ok (.invokevirtual 65, 3) := by decide +kernel
theorem dX5_fewestFor_114 : decode cX5_fewestFor 114 = .ok (.goto 5, 3) := by decide +kernel
theorem dX5_fewestFor_117 : decode cX5_fewestFor 117 = .ok (.bipush (-2), 2) := by decide +kernel
theorem dX5_fewestFor_119 : decode cX5_fewestFor 119 = .ok (.ireturn, 1) := by decide +kernel
theorem dX5_payWith_0 : decode cX5_payWith 0 = .ok (.iload 5, 2) := by decide +kernel
theorem dX5_payWith_2 : decode cX5_payWith 2 = .ok (.istore 6, 2) := by decide +kernel
theorem dX5_payWith_4 : decode cX5_payWith 4 = .ok (.iload 6, 2) := by decide +kernel
theorem dX5_payWith_6 : decode cX5_payWith 6 = .ok (.iload_n 1, 1) := by decide +kernel
theorem dX5_payWith_7 : decode cX5_payWith 7 = .ok (.if_icmp .lt 68, 3) := by decide +kernel
theorem dX5_payWith_10 : decode cX5_payWith 10 = .ok (.iconst 1, 1) := by decide +kernel
theorem dX5_payWith_11 : decode cX5_payWith 11 = .ok (.istore 7, 2) := by decide +kernel
theorem dX5_payWith_13 : decode cX5_payWith 13 = .ok (.iload 7, 2) := by decide +kernel
theorem dX5_payWith_15 : decode cX5_payWith 15 = .ok (.iload_n 2, 1) := by decide +kernel
theorem dX5_payWith_16 : decode cX5_payWith 16 = .ok (.if_icmp .gt 53, 3) := by decide +kernel
theorem dX5_payWith_19 : decode cX5_payWith 19 = .ok (.iload 7, 2) := by decide +kernel
theorem dX5_payWith_21 : decode cX5_payWith 21 = .ok (.iload_n 1, 1) := by decide +kernel
theorem dX5_payWith_22 : decode cX5_payWith 22 = .ok (.imul, 1) := by decide +kernel
theorem dX5_payWith_23 : decode cX5_payWith 23 = .ok (.iload 6, 2) := by decide +kernel
theorem dX5_payWith_25 : decode cX5_payWith 25 = .ok (.if_icmp .gt 44, 3) := by decide +kernel
theorem dX5_payWith_28 : decode cX5_payWith 28 = .ok (.aload_n 0, 1) := by decide +kernel
theorem dX5_payWith_29 : decode cX5_payWith 29 = .ok (.getfield 13, 3) := by decide +kernel
theorem dX5_payWith_32 : decode cX5_payWith 32 = .ok (.iload 6, 2) := by decide +kernel
theorem dX5_payWith_34 : decode cX5_payWith 34 = .ok (.aload_n 0, 1) := by decide +kernel
theorem dX5_payWith_35 : decode cX5_payWith 35 = .ok (.getfield 13, 3) := by decide +kernel
theorem dX5_payWith_38 : decode cX5_payWith 38 = .ok (.iload 6, 2) := by decide +kernel
theorem dX5_payWith_40 : decode cX5_payWith 40 = .ok (.laload, 1) := by decide +kernel
theorem dX5_payWith_41 : decode cX5_payWith 41 = .ok (.aload_n 0, 1) := by decide +kernel
theorem dX5_payWith_42 : decode cX5_payWith 42 = .ok (.getfield 13, 3) := by decide +kernel
theorem dX5_payWith_45 : decode cX5_payWith 45 = .ok (.iload 6, 2) := by decide +kernel
theorem dX5_payWith_47 : decode cX5_payWith 47 = .ok (.iload 7, 2) := by decide +kernel
theorem dX5_payWith_49 : decode cX5_payWith 49 = .ok (.iload_n 1, 1) := by decide +kernel
theorem dX5_payWith_50 : decode cX5_payWith 50 = .ok (.imul, 1) := by decide +kernel
theorem dX5_payWith_51 : decode cX5_payWith 51 = .ok (.isub, 1) := by decide +kernel
theorem dX5_payWith_52 : decode cX5_payWith 52 = .ok (.laload, 1) := by decide +kernel
theorem dX5_payWith_53 : decode cX5_payWith 53 = .ok (.iload 7, 2) := by decide +kernel
theorem dX5_payWith_55 : decode cX5_payWith 55 = .ok (.i2l, 1) := by decide +kernel
theorem dX5_payWith_56 : decode cX5_payWith 56 = .ok (.lload_n 3, 1) := by decide +kernel
theorem dX5_payWith_57 : decode cX5_payWith 57 = .ok (.lmul, 1) := by decide +kernel
theorem dX5_payWith_58 : decode cX5_payWith 58 = .ok (.ladd, 1) := by decide +kernel
theorem dX5_payWith_59 : decode cX5_payWith 59 = .ok (.invokestatic 68, 3) := by decide +kernel
theorem dX5_payWith_62 : decode cX5_payWith 62 = .ok (.lastore, 1) := by decide +kernel
theorem dX5_payWith_63 : decode cX5_payWith 63 = .ok (.iinc 7 1, 3) := by decide +kernel
theorem dX5_payWith_66 : decode cX5_payWith 66 = .ok (.goto (-53), 3) := by decide +kernel
theorem dX5_payWith_69 : decode cX5_payWith 69 = .ok (.iinc 6 (-1), 3) := by decide +kernel
theorem dX5_payWith_72 : decode cX5_payWith 72 = .ok (.goto (-68), 3) := by decide +kernel
theorem dX5_payWith_75 : decode cX5_payWith 75 = .ok (.return_, 1) := by decide +kernel
theorem dX5_inAll_0 : decode cX5_inAll 0 = .ok (.aload_n 0, 1) := by decide +kernel
theorem dX5_inAll_1 : decode cX5_inAll 1 = .ok (.getfield 13, 3) := by decide +kernel
theorem dX5_inAll_4 : decode cX5_inAll 4 = .ok (.iload_n 1, 1) := by decide +kernel
theorem dX5_inAll_5 : decode cX5_inAll 5 = .ok (.laload, 1) := by decide +kernel
theorem dX5_inAll_6 : decode cX5_inAll 6 = .ok (.ldc2_w 47, 3) := by decide +kernel
theorem dX5_inAll_9 : decode cX5_inAll 9 = .ok (.ladd, 1) := by decide +kernel
theorem dX5_inAll_10 : decode cX5_inAll 10 = .ok (.lconst 1, 1) := by decide +kernel
theorem dX5_inAll_11 : decode cX5_inAll 11 = .ok (.lsub, 1) := by decide +kernel
theorem dX5_inAll_12 : decode cX5_inAll 12 = .ok (.ldc2_w 47, 3) := by decide +kernel
theorem dX5_inAll_15 : decode cX5_inAll 15 = .ok (.ldiv, 1) := by decide +kernel
theorem dX5_inAll_16 : decode cX5_inAll 16 = .ok (.l2i, 1) := by decide +kernel
theorem dX5_inAll_17 : decode cX5_inAll 17 = .ok (.ireturn, 1) := by decide +kernel
theorem dX5_fewestOf_0 : decode cX5_fewestOf 0 = .ok (.aload_n 0, 1) := by decide +kernel
theorem dX5_fewestOf_1 : decode cX5_fewestOf 1 = .ok (.iload_n 1, 1) := by decide +kernel
theorem dX5_fewestOf_2 : decode cX5_fewestOf 2 = .ok (.invokevirtual 65, 3) := by decide +kernel
theorem dX5_fewestOf_5 : decode cX5_fewestOf 5 = .ok (.i2l, 1) := by decide +kernel
theorem dX5_fewestOf_6 : decode cX5_fewestOf 6 = .ok (.ldc2_w 47, 3) := by decide +kernel
theorem dX5_fewestOf_9 : decode cX5_fewestOf 9 = .ok (.lmul, 1) := by decide +kernel
theorem dX5_fewestOf_10 : decode cX5_fewestOf 10 = .ok (.aload_n 0, 1) := by decide +kernel
theorem dX5_fewestOf_11 : decode cX5_fewestOf 11 = .ok (.getfield 13, 3) := by decide +kernel
theorem dX5_fewestOf_14 : decode cX5_fewestOf 14 = .ok (.iload_n 1, 1) := by decide +kernel
theorem dX5_fewestOf_15 : decode cX5_fewestOf 15 = .ok (.laload, 1) := by decide +kernel
theorem dX5_fewestOf_16 : decode cX5_fewestOf 16 = .ok (.lsub, 1) := by decide +kernel
theorem dX5_fewestOf_17 : decode cX5_fewestOf 17 = .ok (.lstore_n 3, 1) := by decide +kernel
theorem dX5_fewestOf_18 : decode cX5_fewestOf 18 = .ok (.iload_n 2, 1) := by decide +kernel
theorem dX5_fewestOf_19 : decode cX5_fewestOf 19 = .ok (.iconst 1, 1) := by decide +kernel
theorem dX5_fewestOf_20 : decode cX5_fewestOf 20 = .ok (.iadd, 1) := by decide +kernel
theorem dX5_fewestOf_21 : decode cX5_fewestOf 21 = .ok (.istore 5, 2) := by decide +kernel
theorem dX5_fewestOf_23 : decode cX5_fewestOf 23 = .ok (.iload 5, 2) := by decide +kernel
theorem dX5_fewestOf_25 : decode cX5_fewestOf 25 = .ok (.bipush 16, 2) := by decide +kernel
theorem dX5_fewestOf_27 : decode cX5_fewestOf 27 = .ok (.if_icmp .ge 15, 3) := by decide +kernel
theorem dX5_fewestOf_30 : decode cX5_fewestOf 30 = .ok (.lload_n 3, 1) := by decide +kernel
theorem dX5_fewestOf_31 : decode cX5_fewestOf 31 = .ok (.ldc2_w 49, 3) := by decide +kernel
theorem dX5_fewestOf_34 : decode cX5_fewestOf 34 = .ok (.ldiv, 1) := by decide +kernel
theorem dX5_fewestOf_35 : decode cX5_fewestOf 35 = .ok (.lstore_n 3, 1) := by decide +kernel
theorem dX5_fewestOf_36 : decode cX5_fewestOf 36 = .ok (.iinc 5 1, 3) := by decide +kernel
theorem dX5_fewestOf_39 : decode cX5_fewestOf 39 = .ok (.goto (-16), 3) := by decide +kernel
theorem dX5_fewestOf_42 : decode cX5_fewestOf 42 = .ok (.lload_n 3, 1) := by decide +kernel
theorem dX5_fewestOf_43 : decode cX5_fewestOf 43 = .ok (.ldc2_w 49, 3) := by decide +kernel
theorem dX5_fewestOf_46 : decode cX5_fewestOf 46 = .ok (.lrem, 1) := by decide +kernel
theorem dX5_fewestOf_47 : decode cX5_fewestOf 47 = .ok (.l2i, 1) := by decide +kernel
theorem dX5_fewestOf_48 : decode cX5_fewestOf 48 = .ok (.ireturn, 1) := by decide +kernel
theorem dX6_init_0 : decode cX6_init 0 = .ok (.aload_n 0, 1) := by decide +kernel
theorem dX6_init_1 : decode cX6_init 1 = .ok (.invokespecial 3, 3) := by decide +kernel
theorem dX6_init_4 : decode cX6_init 4 = .ok (.aload_n 0, 1) := by decide +kernel
theorem dX6_init_5 : decode cX6_init 5 = .ok (.bipush 120, 2) := by decide +kernel
theorem dX6_init_7 : decode cX6_init 7 = .ok (.newarray .int, 2) := by decide +kernel
theorem dX6_init_9 : decode cX6_init 9 = .ok (.putfield 11, 3) := by decide +kernel
theorem dX6_init_12 : decode cX6_init 12 = .ok (.aload_n 0, 1) := by decide +kernel
theorem dX6_init_13 : decode cX6_init 13 = .ok (.bipush 121, 2) := by decide +kernel
theorem dX6_init_15 : decode cX6_init 15 = .ok (.newarray .int, 2) := by decide +kernel
theorem dX6_init_17 : decode cX6_init 17 = .ok (.putfield 15, 3) := by decide +kernel
theorem dX6_init_20 : decode cX6_init 20 = .ok (.return_, 1) := by decide +kernel
theorem dX6_length_0 : decode cX6_length 0 = .ok (.aload_n 0, 1) := by decide +kernel
theorem dX6_length_1 : decode cX6_length 1 = .ok (.getfield 18, 3) := by decide +kernel
theorem dX6_length_4 : decode cX6_length 4 = .ok (.ireturn, 1) := by decide +kernel
theorem dX6_feedBytes_0 : decode cX6_feedBytes 0 = .ok (.aload_n 0, 1) := by decide +kernel
theorem dX6_feedBytes_1 : decode cX6_feedBytes 1 = .ok (.getfield 18, 3) := by decide +kernel
theorem dX6_feedBytes_4 : decode cX6_feedBytes 4 = .ok (.iload_n 1, 1) := by decide +kernel
theorem dX6_feedBytes_5 : decode cX6_feedBytes 5 = .ok (.iadd, 1) := by decide +kernel
theorem dX6_feedBytes_6 : decode cX6_feedBytes 6 = .ok (.bipush 120, 2) := by decide +kernel
theorem dX6_feedBytes_8 : decode cX6_feedBytes 8 = .ok (.if_icmp .le 6, 3) := by decide +kernel
theorem dX6_feedBytes_11 : decode cX6_feedBytes 11 = .ok (.bipush (-3), 2) := by decide +kernel
theorem dX6_feedBytes_13 : decode cX6_feedBytes 13 = .ok (.ireturn, 1) := by decide +kernel
theorem dX6_feedBytes_14 : decode cX6_feedBytes 14 = .ok (.iconst 0, 1) := by decide +kernel
theorem dX6_feedBytes_15 : decode cX6_feedBytes 15 = .ok (.istore_n 3, 1) := by decide +kernel
theorem dX6_feedBytes_16 : decode cX6_feedBytes 16 = .ok (.iload_n 3, 1) := by decide +kernel
theorem dX6_feedBytes_17 : decode cX6_feedBytes 17 = .ok (.iload_n 1, 1) := by decide +kernel
theorem dX6_feedBytes_18 : decode cX6_feedBytes 18 = .ok (.if_icmp .ge 38, 3) := by decide +kernel
theorem dX6_feedBytes_21 : decode cX6_feedBytes 21 = .ok (.aload_n 0, 1) := by decide +kernel
theorem dX6_feedBytes_22 : decode cX6_feedBytes 22 = .ok (.getfield 11, 3) := by decide +kernel
theorem dX6_feedBytes_25 : decode cX6_feedBytes 25 = .ok (.aload_n 0, 1) := by decide +kernel
theorem dX6_feedBytes_26 : decode cX6_feedBytes 26 = .ok (.getfield 18, 3) := by decide +kernel
theorem dX6_feedBytes_29 : decode cX6_feedBytes 29 = .ok (.iload_n 2, 1) := by decide +kernel
theorem dX6_feedBytes_30 : decode cX6_feedBytes 30 = .ok (.bipush 8, 2) := by decide +kernel
theorem dX6_feedBytes_32 : decode cX6_feedBytes 32 = .ok (.iload_n 3, 1) := by decide +kernel
theorem dX6_feedBytes_33 : decode cX6_feedBytes 33 = .ok (.imul, 1) := by decide +kernel
theorem dX6_feedBytes_34 : decode cX6_feedBytes 34 = .ok (.ishr, 1) := by decide +kernel
theorem dX6_feedBytes_35 : decode cX6_feedBytes 35 = .ok (.sipush 255, 3) := by decide +kernel
theorem dX6_feedBytes_38 : decode cX6_feedBytes 38 = .ok (.iand, 1) := by decide +kernel
theorem dX6_feedBytes_39 : decode cX6_feedBytes 39 = .ok (.iastore, 1) := by decide +kernel
theorem dX6_feedBytes_40 : decode cX6_feedBytes 40 = .ok (.aload_n 0, 1) := by decide +kernel
theorem dX6_feedBytes_41 : decode cX6_feedBytes 41 = .ok (.dup, 1) := by decide +kernel
theorem dX6_feedBytes_42 : decode cX6_feedBytes 42 = .ok (.getfield 18, 3) := by decide +kernel
theorem dX6_feedBytes_45 : decode cX6_feedBytes 45 = .ok (.iconst 1, 1) := by decide +kernel
theorem dX6_feedBytes_46 : decode cX6_feedBytes 46 = .ok (.iadd, 1) := by decide +kernel
theorem dX6_feedBytes_47 : decode cX6_feedBytes 47 = .ok (.putfield 18, 3) := by decide +kernel
theorem dX6_feedBytes_50 : decode cX6_feedBytes 50 = .ok (.iinc 3 1, 3) := by decide +kernel
theorem dX6_feedBytes_53 : decode cX6_feedBytes 53 = .ok (.goto (-37), 3) := by decide +kernel
theorem dX6_feedBytes_56 : decode cX6_feedBytes 56 = .ok (.aload_n 0, 1) := by decide +kernel
theorem dX6_feedBytes_57 : decode cX6_feedBytes 57 = .ok (.getfield 18, 3) := by decide +kernel
theorem dX6_feedBytes_60 : decode cX6_feedBytes 60 = .ok (.ireturn, 1) := by decide +kernel
theorem dX6_written_0 : decode cX6_written 0 = .ok (.aload_n 0, 1) := by decide +kernel
theorem dX6_written_1 : decode cX6_written 1 = .ok (.getfield 22, 3) := by decide +kernel
theorem dX6_written_4 : decode cX6_written 4 = .ok (.ireturn, 1) := by decide +kernel
theorem dX6_step_0 : decode cX6_step 0 = .ok (.aload_n 0, 1) := by decide +kernel
theorem dX6_step_1 : decode cX6_step 1 = .ok (.getfield 15, 3) := by decide +kernel
theorem dX6_step_4 : decode cX6_step 4 = .ok (.iload_n 1, 1) := by decide +kernel
theorem dX6_step_5 : decode cX6_step 5 = .ok (.iaload, 1) := by decide +kernel
theorem dX6_step_6 : decode cX6_step 6 = .ok (.ireturn, 1) := by decide +kernel
theorem dX6_readText_0 : decode cX6_readText 0 = .ok (.aload_n 0, 1) := by decide +kernel
theorem dX6_readText_1 : decode cX6_readText 1 = .ok (.iconst 0, 1) := by decide +kernel
theorem dX6_readText_2 : decode cX6_readText 2 = .ok (.putfield 25, 3) := by decide +kernel
theorem dX6_readText_5 : decode cX6_readText 5 = .ok (.aload_n 0, 1) := by decide +kernel
theorem dX6_readText_6 : decode cX6_readText 6 = .ok (.iconst 0, 1) := by decide +kernel
theorem dX6_readText_7 : decode cX6_readText 7 = .ok (.putfield 22, 3) := by decide +kernel
theorem dX6_readText_10 : decode cX6_readText 10 = .ok (.aload_n 0, 1) := by decide +kernel
theorem dX6_readText_11 : decode cX6_readText 11 = .ok (.iconst (-1), 1) := by decide +kernel
theorem dX6_readText_12 : decode cX6_readText 12 = .ok (.putfield 28, 3) := by decide +kernel
theorem dX6_readText_15 : decode cX6_readText 15 = .ok (.aload_n 0, 1) := by decide +kernel
theorem dX6_readText_16 : decode cX6_readText 16 = .ok (.invokevirtual 31, 3) := by decide +kernel
theorem dX6_readText_19 : decode cX6_readText 19 = .ok (.iconst 0, 1) := by decide +kernel
theorem dX6_readText_20 : decode cX6_readText 20 = .ok (.istore_n 1, 1) := by decide +kernel
theorem dX6_readText_21 : decode cX6_readText 21 = .ok (.iload_n 1, 1) := by decide +kernel
theorem dX6_readText_22 : decode cX6_readText 22 = .ok (.bipush 120, 2) := by decide +kernel
theorem dX6_readText_24 : decode cX6_readText 24 = .ok (.if_icmp .ge 22, 3) := by decide +kernel
theorem dX6_readText_27 : decode cX6_readText 27 = .ok (.aload_n 0, 1) := by decide +kernel
theorem dX6_readText_28 : decode cX6_readText 28 = .ok (.bipush 59, 2) := by decide +kernel
theorem dX6_readText_30 : decode cX6_readText 30 = .ok (.invokevirtual 34, 3) := by decide +kernel
theorem dX6_readText_33 : decode cX6_readText 33 = .ok (.ifCond .eq 13, 3) := by decide +kernel
theorem dX6_readText_36 : decode cX6_readText 36 = .ok (.aload_n 0, 1) := by decide +kernel
theorem dX6_readText_37 : decode cX6_readText 37 = .ok (.invokevirtual 31, 3) := by decide +kernel
theorem dX6_readText_40 : decode cX6_readText 40 = .ok (.iinc 1 1, 3) := by decide +kernel
theorem dX6_readText_43 : decode cX6_readText 43 = .ok (.goto (-22), 3) := by decide +kernel
theorem dX6_readText_46 : decode cX6_readText 46 = .ok (.aload_n 0, 1) := by decide +kernel
theorem dX6_readText_47 : decode cX6_readText 47 = .ok (.getfield 28, 3) := by decide +kernel
theorem dX6_readText_50 : decode cX6_readText 50 = .ok (.iconst (-1), 1) := by decide +kernel
theorem dX6_readText_51 : decode cX6_readText 51 = .ok (.if_icmp .ne 22, 3) := by decide +kernel
theorem dX6_readText_54 : decode cX6_readText 54 = .ok (.aload_n 0, 1) := by decide +kernel
theorem dX6_readText_55 : decode cX6_readText 55 = .ok (.getfield 25, 3) := by decide +kernel
theorem dX6_readText_58 : decode cX6_readText 58 = .ok (.aload_n 0, 1) := by decide +kernel
theorem dX6_readText_59 : decode cX6_readText 59 = .ok (.getfield 18, 3) := by decide +kernel
theorem dX6_readText_62 : decode cX6_readText 62 = .ok (.if_icmp .ge 11, 3) := by decide +kernel
theorem dX6_readText_65 : decode cX6_readText 65 = .ok (.aload_n 0, 1) := by decide +kernel
theorem dX6_readText_66 : decode cX6_readText 66 = .ok (.aload_n 0, 1) := by decide +kernel
theorem dX6_readText_67 : decode cX6_readText 67 = .ok (.getfield 25, 3) := by decide +kernel
theorem dX6_readText_70 : decode cX6_readText 70 = .ok (.putfield 28, 3) := by decide +kernel
theorem dX6_readText_73 : decode cX6_readText 73 = .ok (.aload_n 0, 1) := by decide +kernel
theorem dX6_readText_74 : decode cX6_readText 74 = .ok (.iconst 0, 1) := by decide +kernel
theorem dX6_readText_75 : decode cX6_readText 75 = .ok (.putfield 18, 3) := by decide +kernel
theorem dX6_readText_78 : decode cX6_readText 78 = .ok (.aload_n 0, 1) := by decide +kernel
theorem dX6_readText_79 : decode cX6_readText 79 = .ok (.getfield 28, 3) := by decide +kernel
theorem dX6_readText_82 : decode cX6_readText 82 = .ok (.ireturn, 1) := by decide +kernel
theorem dX6_readLine_0 : decode cX6_readLine 0 = .ok (.aload_n 0, 1) := by decide +kernel
theorem dX6_readLine_1 : decode cX6_readLine 1 = .ok (.iconst 0, 1) := by decide +kernel
theorem dX6_readLine_2 : decode cX6_readLine 2 = .ok (.iconst 0, 1) := by decide +kernel
theorem dX6_readLine_3 : decode cX6_readLine 3 = .ok (.invokevirtual 38, 3) := by decide +kernel
theorem dX6_readLine_6 : decode cX6_readLine 6 = .ok (.aload_n 0, 1) := by decide +kernel
theorem dX6_readLine_7 : decode cX6_readLine 7 = .ok (.bipush 63, 2) := by decide +kernel
theorem dX6_readLine_9 : decode cX6_readLine 9 = .ok (.invokevirtual 34, 3) := by decide +kernel
theorem dX6_readLine_12 : decode cX6_readLine 12 = .ok (.ifCond .eq 15, 3) := by decide +kernel
theorem dX6_readLine_15 : decode cX6_readLine 15 = .ok (.aload_n 0, 1) := by decide +kernel
theorem dX6_readLine_16 : decode cX6_readLine 16 = .ok (.bipush (-63), 2) := by decide +kernel
theorem dX6_readLine_18 : decode cX6_readLine 18 = .ok (.invokevirtual 42, 3) := by decide +kernel
theorem dX6_readLine_21 : decode cX6_readLine 21 = .ok (.aload_n 0, 1) := by decide +kernel
theorem dX6_readLine_22 : decode cX6_readLine 22 = .ok (.iconst 0, 1) := by decide +kernel
theorem dX6_readLine_23 : decode cX6_readLine 23 = .ok (.iconst 0, 1) := by decide +kernel
theorem dX6_readLine_24 : decode cX6_readLine 24 = .ok (.invokevirtual 38, 3) := by decide +kernel
theorem dX6_readLine_27 : decode cX6_readLine 27 = .ok (.aload_n 0, 1) := by decide +kernel
theorem dX6_readLine_28 : decode cX6_readLine 28 = .ok (.bipush (-59), 2) := by decide +kernel
theorem dX6_readLine_30 : decode cX6_readLine 30 = .ok (.invokevirtual 42, 3) := by decide +kernel
theorem dX6_readLine_33 : decode cX6_readLine 33 = .ok (.return_, 1) := by decide +kernel
theorem dX6_readRank_0 : decode cX6_readRank 0 = .ok (.iload_n 1, 1) := by decide +kernel
theorem dX6_readRank_1 : decode cX6_readRank 1 = .ok (.iconst 5, 1) := by decide +kernel
theorem dX6_readRank_2 : decode cX6_readRank 2 = .ok (.if_icmp .ne 9, 3) := by decide +kernel
theorem dX6_readRank_5 : decode cX6_readRank 5 = .ok (.aload_n 0, 1) := by decide +kernel
theorem dX6_readRank_6 : decode cX6_readRank 6 = .ok (.iload_n 2, 1) := by decide +kernel
theorem dX6_readRank_7 : decode cX6_readRank 7 = .ok (.invokevirtual 46, 3) := by decide +kernel
theorem dX6_readRank_10 : decode cX6_readRank 10 = .ok (.return_, 1) := by decide +kernel
theorem dX6_readRank_11 : decode cX6_readRank 11 = .ok (.aload_n 0, 1) := by decide +kernel
theorem dX6_readRank_12 : decode cX6_readRank 12 = .ok (.iload_n 1, 1) := by decide +kernel
theorem dX6_readRank_13 : decode cX6_readRank 13 = .ok (.iconst 1, 1) := by decide +kernel
theorem dX6_readRank_14 : decode cX6_readRank 14 = .ok (.iadd, 1) := by decide +kernel
theorem dX6_readRank_15 : decode cX6_readRank 15 = .ok (.iload_n 2, 1) := by decide +kernel
theorem dX6_readRank_16 : decode cX6_readRank 16 = .ok (.invokevirtual 38, 3) := by decide +kernel
theorem dX6_readRank_19 : decode cX6_readRank 19 = .ok (.iload_n 1, 1) := by decide +kernel
theorem dX6_readRank_20 : decode cX6_readRank 20 = .ok (.iconst 2, 1) := by decide +kernel
theorem dX6_readRank_21 : decode cX6_readRank 21 = .ok (.if_icmp .ne 7, 3) := by decide +kernel
theorem dX6_readRank_24 : decode cX6_readRank 24 = .ok (.iconst 1, 1) := by decide +kernel
theorem dX6_readRank_25 : decode cX6_readRank 25 = .ok (.goto 5, 3) := by decide +kernel
theorem dX6_readRank_28 : decode cX6_readRank 28 = .ok (.bipush 120, 2) := by decide +kernel
theorem dX6_readRank_30 : decode cX6_readRank 30 = .ok (.istore_n 3, 1) := by decide +kernel
theorem dX6_readRank_31 : decode cX6_readRank 31 = .ok (.iconst 0, 1) := by decide +kernel
theorem dX6_readRank_32 : decode cX6_readRank 32 = .ok (.istore 4, 2) := by decide +kernel
theorem dX6_readRank_34 : decode cX6_readRank 34 = .ok (.iload 4, 2) := by decide +kernel
theorem dX6_readRank_36 : decode cX6_readRank 36 = .ok (.iload_n 3, 1) := by decide +kernel
theorem dX6_readRank_37 : decode cX6_readRank 37 = .ok (.if_icmp .ge 59, 3) := by decide +kernel
theorem dX6_readRank_40 : decode cX6_readRank 40 = .ok (.aload_n 0, 1) := by decide +kernel
theorem dX6_readRank_41 : decode cX6_readRank 41 = .ok (.getfield 28, 3) := by decide +kernel
theorem dX6_readRank_44 : decode cX6_readRank 44 = .ok (.iconst (-1), 1) := by decide +kernel
theorem dX6_readRank_45 : decode cX6_readRank 45 = .ok (.if_icmp .ne 51, 3) := by decide +kernel
theorem dX6_readRank_48 : decode cX6_readRank 48 = .ok (.aload_n 0, 1) := by decide +kernel
theorem dX6_readRank_49 : decode cX6_readRank 49 = .ok (.invokevirtual 49, 3) := by decide +kernel
theorem dX6_readRank_52 : decode cX6_readRank 52 = .ok (.invokestatic 53, 3) := by decide +kernel
theorem dX6_readRank_55 : decode cX6_readRank 55 = .ok (.iload_n 1, 1) := by decide +kernel
theorem dX6_readRank_56 : decode cX6_readRank 56 = .ok (.if_icmp .ne 40, 3) := by decide +kernel
theorem dX6_readRank_59 : decode cX6_readRank 59 = .ok (.aload_n 0, 1) := by decide +kernel
theorem dX6_readRank_60 : decode cX6_readRank 60 = .ok (.invokevirtual 49, 3) := by decide +kernel
theorem dX6_readRank_63 : decode cX6_readRank 63 = .ok (.istore 5, 2) := by decide +kernel
theorem dX6_readRank_65 : decode cX6_readRank 65 = .ok (.aload_n 0, 1) := by decide +kernel
theorem dX6_readRank_66 : decode cX6_readRank 66 = .ok (.dup, 1) := by decide +kernel
theorem dX6_readRank_67 : decode cX6_readRank 67 = .ok (.getfield 25, 3) := by decide +kernel
theorem dX6_readRank_70 : decode cX6_readRank 70 = .ok (.iconst 1, 1) := by decide +kernel
theorem dX6_readRank_71 : decode cX6_readRank 71 = .ok (.iadd, 1) := by decide +kernel
theorem dX6_readRank_72 : decode cX6_readRank 72 = .ok (.putfield 25, 3) := by decide +kernel
theorem dX6_readRank_75 : decode cX6_readRank 75 = .ok (.aload_n 0, 1) := by decide +kernel
theorem dX6_readRank_76 : decode cX6_readRank 76 = .ok (.iload_n 1, 1) := by decide +kernel
theorem dX6_readRank_77 : decode cX6_readRank 77 = .ok (.iconst 1, 1) := by decide +kernel
theorem dX6_readRank_78 : decode cX6_readRank 78 = .ok (.iadd, 1) := by decide +kernel
theorem dX6_readRank_79 : decode cX6_readRank 79 = .ok (.iload_n 2, 1) := by decide +kernel
theorem dX6_readRank_80 : decode cX6_readRank 80 = .ok (.invokevirtual 38, 3) := by decide +kernel
theorem dX6_readRank_83 : decode cX6_readRank 83 = .ok (.aload_n 0, 1) := by decide +kernel
theorem dX6_readRank_84 : decode cX6_readRank 84 = .ok (.iload 5, 2) := by decide +kernel
theorem dX6_readRank_86 : decode cX6_readRank 86 = .ok (.ineg, 1) := by decide +kernel
theorem dX6_readRank_87 : decode cX6_readRank 87 = .ok (.invokevirtual 42, 3) := by decide +kernel
theorem dX6_readRank_90 : decode cX6_readRank 90 = .ok (.iinc 4 1, 3) := by decide +kernel
theorem dX6_readRank_93 : decode cX6_readRank 93 = .ok (.goto (-59), 3) := by decide +kernel
theorem dX6_readRank_96 : decode cX6_readRank 96 = .ok (.return_, 1) := by decide +kernel
theorem dX6_rankOf_0 : decode cX6_rankOf 0 = .ok (.iload_n 0, 1) := by decide +kernel
theorem dX6_rankOf_1 : decode cX6_rankOf 1 = .ok (.lookupswitch 101 #[(37, 99), (38, 93), (42, 99), (43, 97), (45, 97), (47, 99), (60, 95), (61, 95), (62, 95), (124, 91)], 91) := by decide +kernel
theorem dX6_rankOf_92 : decode cX6_rankOf 92 = .ok (.iconst 0, 1) := by decide +kernel
theorem dX6_rankOf_93 : decode cX6_rankOf 93 = .ok (.ireturn, 1) := by decide +kernel
theorem dX6_rankOf_94 : decode cX6_rankOf 94 = .ok (.iconst 1, 1) := by decide +kernel
theorem dX6_rankOf_95 : decode cX6_rankOf 95 = .ok (.ireturn, 1) := by decide +kernel
theorem dX6_rankOf_96 : decode cX6_rankOf 96 = .ok (.iconst 2, 1) := by decide +kernel
theorem dX6_rankOf_97 : decode cX6_rankOf 97 = .ok (.ireturn, 1) := by decide +kernel
theorem dX6_rankOf_98 : decode cX6_rankOf 98 = .ok (.iconst 3, 1) := by decide +kernel
theorem dX6_rankOf_99 : decode cX6_rankOf 99 = .ok (.ireturn, 1) := by decide +kernel
theorem dX6_rankOf_100 : decode cX6_rankOf 100 = .ok (.iconst 4, 1) := by decide +kernel
theorem dX6_rankOf_101 : decode cX6_rankOf 101 = .ok (.ireturn, 1) := by decide +kernel
theorem dX6_rankOf_102 : decode cX6_rankOf 102 = .ok (.iconst 5, 1) := by decide +kernel
theorem dX6_rankOf_103 : decode cX6_rankOf 103 = .ok (.ireturn, 1) := by decide +kernel
theorem dX6_readOperand_0 : decode cX6_readOperand 0 = .ok (.aload_n 0, 1) := by decide +kernel
theorem dX6_readOperand_1 : decode cX6_readOperand 1 = .ok (.invokevirtual 49, 3) := by decide +kernel
theorem dX6_readOperand_4 : decode cX6_readOperand 4 = .ok (.istore_n 2, 1) := by decide +kernel
theorem dX6_readOperand_5 : decode cX6_readOperand 5 = .ok (.iload_n 2, 1) := by decide +kernel
theorem dX6_readOperand_6 : decode cX6_readOperand 6 = .ok (.bipush 48, 2) := by decide +kernel
theorem dX6_readOperand_8 : decode cX6_readOperand 8 = .ok (.if_icmp .lt 16, 3) := by decide +kernel
theorem dX6_readOperand_11 : decode cX6_readOperand 11 = .ok (.iload_n 2, 1) := by decide +kernel
theorem dX6_readOperand_12 : decode cX6_readOperand 12 = .ok (.bipush 57, 2) := by decide +kernel
theorem dX6_readOperand_14 : decode cX6_readOperand 14 = .ok (.if_icmp .gt 10, 3) := by decide +kernel
theorem dX6_readOperand_17 : decode cX6_readOperand 17 = .ok (.aload_n 0, 1) := by decide +kernel
theorem dX6_readOperand_18 : decode cX6_readOperand 18 = .ok (.invokevirtual 57, 3) := by decide +kernel
theorem dX6_readOperand_21 : decode cX6_readOperand 21 = .ok (.goto 82, 3) := by decide +kernel
theorem dX6_readOperand_24 : decode cX6_readOperand 24 = .ok (.iload_n 2, 1) := by decide +kernel
theorem dX6_readOperand_25 : decode cX6_readOperand 25 = .ok (.invokestatic 60, 3) := by decide +kernel
theorem dX6_readOperand_28 : decode cX6_readOperand 28 = .ok (.ifCond .eq 22, 3) := by decide +kernel
theorem dX6_readOperand_31 : decode cX6_readOperand 31 = .ok (.aload_n 0, 1) := by decide +kernel
theorem dX6_readOperand_32 : decode cX6_readOperand 32 = .ok (.dup, 1) := by decide +kernel
theorem dX6_readOperand_33 : decode cX6_readOperand 33 = .ok (.getfield 25, 3) := by decide +kernel
theorem dX6_readOperand_36 : decode cX6_readOperand 36 = .ok (.iconst 1, 1) := by decide +kernel
theorem dX6_readOperand_37 : decode cX6_readOperand 37 = .ok (.iadd, 1) := by decide +kernel
theorem dX6_readOperand_38 : decode cX6_readOperand 38 = .ok (.putfield 25, 3) := by decide +kernel
theorem dX6_readOperand_41 : decode cX6_readOperand 41 = .ok (.aload_n 0, 1) := by decide +kernel
theorem dX6_readOperand_42 : decode cX6_readOperand 42 = .ok (.iload_n 2, 1) := by decide +kernel
theorem dX6_readOperand_43 : decode cX6_readOperand 43 = .ok (.ineg, 1) := by decide +kernel
theorem dX6_readOperand_44 : decode cX6_readOperand 44 = .ok (.invokevirtual 42, 3) := by decide +kernel
theorem dX6_readOperand_47 : decode cX6_readOperand 47 = .ok (.goto 56, 3) := by decide +kernel
theorem dX6_readOperand_50 : decode cX6_readOperand 50 = .ok (.iload_n 2, 1) := by decide +kernel
theorem dX6_readOperand_51 : decode cX6_readOperand 51 = .ok (.bipush 40, 2) := by decide +kernel
theorem dX6_readOperand_53 : decode cX6_readOperand 53 = .ok (.if_icmp .eq 15, 3) := by decide +kernel
theorem dX6_readOperand_56 : decode cX6_readOperand 56 = .ok (.iload_n 2, 1) := by decide +kernel
theorem dX6_readOperand_57 : decode cX6_readOperand 57 = .ok (.bipush 33, 2) := by decide +kernel
theorem dX6_readOperand_59 : decode cX6_readOperand 59 = .ok (.if_icmp .eq 9, 3) := by decide +kernel
theorem dX6_readOperand_62 : decode cX6_readOperand 62 = .ok (.iload_n 2, 1) := by decide +kernel
theorem dX6_readOperand_63 : decode cX6_readOperand 63 = .ok (.bipush 45, 2) := by decide +kernel
theorem dX6_readOperand_65 : decode cX6_readOperand 65 = .ok (.if_icmp .ne 30, 3) := by decide +kernel
theorem dX6_readOperand_68 : decode cX6_readOperand 68 = .ok (.iload_n 1, 1) := by decide +kernel
theorem dX6_readOperand_69 : decode cX6_readOperand 69 = .ok (.bipush 6, 2) := by decide +kernel
theorem dX6_readOperand_71 : decode cX6_readOperand 71 = .ok (.if_icmp .ge 24, 3) := by decide +kernel
theorem dX6_readOperand_74 : decode cX6_readOperand 74 = .ok (.aload_n 0, 1) := by decide +kernel
theorem dX6_readOperand_75 : decode cX6_readOperand 75 = .ok (.dup, 1) := by decide +kernel
theorem dX6_readOperand_76 : decode cX6_readOperand 76 = .ok (.getfield 25, 3) := by decide +kernel
theorem dX6_readOperand_79 : decode cX6_readOperand 79 = .ok (.iconst 1, 1) := by decide +kernel
theorem dX6_readOperand_80 : decode cX6_readOperand 80 = .ok (.iadd, 1) := by decide +kernel
theorem dX6_readOperand_81 : decode cX6_readOperand 81 = .ok (.putfield 25, 3) := by decide +kernel
theorem dX6_readOperand_84 : decode cX6_readOperand 84 = .ok (.aload_n 0, 1) := by decide +kernel
theorem dX6_readOperand_85 : decode cX6_readOperand 85 = .ok (.iload_n 2, 1) := by decide +kernel
theorem dX6_readOperand_86 : decode cX6_readOperand 86 = .ok (.iload_n 1, 1) := by decide +kernel
theorem dX6_readOperand_87 : decode cX6_readOperand 87 = .ok (.iconst 1, 1) := by decide +kernel
theorem dX6_readOperand_88 : decode cX6_readOperand 88 = .ok (.iadd, 1) := by decide +kernel
theorem dX6_readOperand_89 : decode cX6_readOperand 89 = .ok (.invokevirtual 63, 3) := by decide +kernel
theorem dX6_readOperand_92 : decode cX6_readOperand 92 = .ok (.goto 11, 3) := by decide +kernel
theorem dX6_readOperand_95 : decode cX6_readOperand 95 = .ok (.aload_n 0, 1) := by decide +kernel
theorem dX6_readOperand_96 : decode cX6_readOperand 96 = .ok (.aload_n 0, 1) := by decide +kernel
theorem dX6_readOperand_97 : decode cX6_readOperand 97 = .ok (.getfield 25, 3) := by decide +kernel
theorem dX6_readOperand_100 : decode cX6_readOperand 100 = .ok (.putfield 28, 3) := by decide +kernel
theorem dX6_readOperand_103 : decode cX6_readOperand 103 = .ok (.return_, 1) := by decide +kernel
theorem dX6_readOpened_0 : decode cX6_readOpened 0 = .ok (.iload_n 1, 1) := by decide +kernel
theorem dX6_readOpened_1 : decode cX6_readOpened 1 = .ok (.bipush 40, 2) := by decide +kernel
theorem dX6_readOpened_3 : decode cX6_readOpened 3 = .ok (.if_icmp .eq 26, 3) := by decide +kernel
theorem dX6_readOpened_6 : decode cX6_readOpened 6 = .ok (.aload_n 0, 1) := by decide +kernel
theorem dX6_readOpened_7 : decode cX6_readOpened 7 = .ok (.iload_n 2, 1) := by decide +kernel
theorem dX6_readOpened_8 : decode cX6_readOpened 8 = .ok (.invokevirtual 46, 3) := by decide +kernel
theorem dX6_readOpened_11 : decode cX6_readOpened 11 = .ok (.aload_n 0, 1) := by decide +kernel
theorem dX6_readOpened_12 : decode cX6_readOpened 12 = .ok (.iload_n 1, 1) := by decide +kernel
theorem dX6_readOpened_13 : decode cX6_readOpened 13 = .ok (.bipush 45, 2) := by decide +kernel
theorem dX6_readOpened_15 : decode cX6_readOpened 15 = .ok (.if_icmp .ne 8, 3) := by decide +kernel
theorem dX6_readOpened_18 : decode cX6_readOpened 18 = .ok (.bipush (-126), 2) := by decide +kernel
theorem dX6_readOpened_20 : decode cX6_readOpened 20 = .ok (.goto 5, 3) := by decide +kernel
theorem dX6_readOpened_23 : decode cX6_readOpened 23 = .ok (.iload_n 1, 1) := by decide +kernel
theorem dX6_readOpened_24 : decode cX6_readOpened 24 = .ok (.ineg, 1) := by decide +kernel
theorem dX6_readOpened_25 : decode cX6_readOpened 25 = .ok (.invokevirtual 42, 3) := by decide +kernel
theorem dX6_readOpened_28 : decode cX6_readOpened 28 = .ok (.return_, 1) := by decide +kernel
theorem dX6_readOpened_29 : decode cX6_readOpened 29 = .ok (.aload_n 0, 1) := by decide +kernel
theorem dX6_readOpened_30 : decode cX6_readOpened 30 = .ok (.iconst 0, 1) := by decide +kernel
theorem dX6_readOpened_31 : decode cX6_readOpened 31 = .ok (.iload_n 2, 1) := by decide +kernel
theorem dX6_readOpened_32 : decode cX6_readOpened 32 = .ok (.invokevirtual 38, 3) := by decide +kernel
theorem dX6_readOpened_35 : decode cX6_readOpened 35 = .ok (.aload_n 0, 1) := by decide +kernel
theorem dX6_readOpened_36 : decode cX6_readOpened 36 = .ok (.bipush 41, 2) := by decide +kernel
theorem dX6_readOpened_38 : decode cX6_readOpened 38 = .ok (.invokevirtual 34, 3) := by decide +kernel
theorem dX6_readOpened_41 : decode cX6_readOpened 41 = .ok (.ifCond .ne 19, 3) := by decide +kernel
theorem dX6_readOpened_44 : decode cX6_readOpened 44 = .ok (.aload_n 0, 1) := by decide +kernel
theorem dX6_readOpened_45 : decode cX6_readOpened 45 = .ok (.getfield 28, 3) := by decide +kernel
theorem dX6_readOpened_48 : decode cX6_readOpened 48 = .ok (.iconst (-1), 1) := by decide +kernel
theorem dX6_readOpened_49 : decode cX6_readOpened 49 = .ok (.if_icmp .ne 11, 3) := by decide +kernel
theorem dX6_readOpened_52 : decode cX6_readOpened 52 = .ok (.aload_n 0, 1) := by decide +kernel
theorem dX6_readOpened_53 : decode cX6_readOpened 53 = .ok (.aload_n 0, 1) := by decide +kernel
theorem dX6_readOpened_54 : decode cX6_readOpened 54 = .ok (.getfield 25, 3) := by decide +kernel
theorem dX6_readOpened_57 : decode cX6_readOpened 57 = .ok (.putfield 28, 3) := by decide +kernel
theorem dX6_readOpened_60 : decode cX6_readOpened 60 = .ok (.return_, 1) := by decide +kernel
theorem dX6_isName_0 : decode cX6_isName 0 = .ok (.iload_n 0, 1) := by decide +kernel
theorem dX6_isName_1 : decode cX6_isName 1 = .ok (.bipush 112, 2) := by decide +kernel
theorem dX6_isName_3 : decode cX6_isName 3 = .ok (.if_icmp .eq 27, 3) := by decide +kernel
theorem dX6_isName_6 : decode cX6_isName 6 = .ok (.iload_n 0, 1) := by decide +kernel
theorem dX6_isName_7 : decode cX6_isName 7 = .ok (.bipush 103, 2) := by decide +kernel
theorem dX6_isName_9 : decode cX6_isName 9 = .ok (.if_icmp .eq 21, 3) := by decide +kernel
theorem dX6_isName_12 : decode cX6_isName 12 = .ok (.iload_n 0, 1) := by decide +kernel
theorem dX6_isName_13 : decode cX6_isName 13 = .ok (.bipush 110, 2) := by decide +kernel
theorem dX6_isName_15 : decode cX6_isName 15 = .ok (.if_icmp .eq 15, 3) := by decide +kernel
theorem dX6_isName_18 : decode cX6_isName 18 = .ok (.iload_n 0, 1) := by decide +kernel
theorem dX6_isName_19 : decode cX6_isName 19 = .ok (.bipush 116, 2) := by decide +kernel
theorem dX6_isName_21 : decode cX6_isName 21 = .ok (.if_icmp .eq 9, 3) := by decide +kernel
theorem dX6_isName_24 : decode cX6_isName 24 = .ok (.iload_n 0, 1) := by decide +kernel
theorem dX6_isName_25 : decode cX6_isName 25 = .ok (.bipush 104, 2) := by decide +kernel
theorem dX6_isName_27 : decode cX6_isName 27 = .ok (.if_icmp .ne 7, 3) := by decide +kernel
theorem dX6_isName_30 : decode cX6_isName 30 = .ok (.iconst 1, 1) := by decide +kernel
theorem dX6_isName_31 : decode cX6_isName 31 = .ok (.goto 4, 3) := by decide +kernel
theorem dX6_isName_34 : decode cX6_isName 34 = .ok (.iconst 0, 1) := by decide +kernel
theorem dX6_isName_35 : decode cX6_isName 35 = .ok (.ireturn, 1) := by decide +kernel
theorem dX6_readNumber_0 : decode cX6_readNumber 0 = .ok (.iconst 0, 1) := by decide +kernel
theorem dX6_readNumber_1 : decode cX6_readNumber 1 = .ok (.istore_n 1, 1) := by decide +kernel
theorem dX6_readNumber_2 : decode cX6_readNumber 2 = .ok (.iconst 0, 1) := by decide +kernel
theorem dX6_readNumber_3 : decode cX6_readNumber 3 = .ok (.istore_n 2, 1) := by decide +kernel
theorem dX6_readNumber_4 : decode cX6_readNumber 4 = .ok (.iload_n 2, 1) := by decide +kernel
theorem dX6_readNumber_5 : decode cX6_readNumber 5 = .ok (.iconst 4, 1) := by decide +kernel
theorem dX6_readNumber_6 : decode cX6_readNumber 6 = .ok (.if_icmp .ge 50, 3) := by decide +kernel
theorem dX6_readNumber_9 : decode cX6_readNumber 9 = .ok (.aload_n 0, 1) := by decide +kernel
theorem dX6_readNumber_10 : decode cX6_readNumber 10 = .ok (.invokevirtual 49, 3) := by decide +kernel
theorem dX6_readNumber_13 : decode cX6_readNumber 13 = .ok (.bipush 48, 2) := by decide +kernel
theorem dX6_readNumber_15 : decode cX6_readNumber 15 = .ok (.if_icmp .lt 41, 3) := by decide +kernel
theorem dX6_readNumber_18 : decode cX6_readNumber 18 = .ok (.aload_n 0, 1) := by decide +kernel
theorem dX6_readNumber_19 : decode cX6_readNumber 19 = .ok (.invokevirtual 49, 3) := by decide +kernel
theorem dX6_readNumber_22 : decode cX6_readNumber 22 = .ok (.bipush 57, 2) := by decide +kernel
theorem dX6_readNumber_24 : decode cX6_readNumber 24 = .ok (.if_icmp .gt 32, 3) := by decide +kernel
theorem dX6_readNumber_27 : decode cX6_readNumber 27 = .ok (.iload_n 1, 1) := by decide +kernel
theorem dX6_readNumber_28 : decode cX6_readNumber 28 = .ok (.bipush 10, 2) := by decide +kernel
theorem dX6_readNumber_30 : decode cX6_readNumber 30 = .ok (.imul, 1) := by decide +kernel
theorem dX6_readNumber_31 : decode cX6_readNumber 31 = .ok (.aload_n 0, 1) := by decide +kernel
theorem dX6_readNumber_32 : decode cX6_readNumber 32 = .ok (.invokevirtual 49, 3) := by decide +kernel
theorem dX6_readNumber_35 : decode cX6_readNumber 35 = .ok (.iadd, 1) := by decide +kernel
theorem dX6_readNumber_36 : decode cX6_readNumber 36 = .ok (.bipush 48, 2) := by decide +kernel
theorem dX6_readNumber_38 : decode cX6_readNumber 38 = .ok (.isub, 1) := by decide +kernel
theorem dX6_readNumber_39 : decode cX6_readNumber 39 = .ok (.istore_n 1, 1) := by decide +kernel
theorem dX6_readNumber_40 : decode cX6_readNumber 40 = .ok (.aload_n 0, 1) := by decide +kernel
theorem dX6_readNumber_41 : decode cX6_readNumber 41 = .ok (.dup, 1) := by decide +kernel
theorem dX6_readNumber_42 : decode cX6_readNumber 42 = .ok (.getfield 25, 3) := by decide +kernel
theorem dX6_readNumber_45 : decode cX6_readNumber 45 = .ok (.iconst 1, 1) := by decide +kernel
theorem dX6_readNumber_46 : decode cX6_readNumber 46 = .ok (.iadd, 1) := by decide +kernel
theorem dX6_readNumber_47 : decode cX6_readNumber 47 = .ok (.putfield 25, 3) := by decide +kernel
theorem dX6_readNumber_50 : decode cX6_readNumber 50 = .ok (.iinc 2 1, 3) := by decide +kernel
theorem dX6_readNumber_53 : decode cX6_readNumber 53 = .ok (.goto (-49), 3) := by decide +kernel
theorem dX6_readNumber_56 : decode cX6_readNumber 56 = .ok (.aload_n 0, 1) := by decide +kernel
theorem dX6_readNumber_57 : decode cX6_readNumber 57 = .ok (.iload_n 1, 1) := by decide +kernel
theorem dX6_readNumber_58 : decode cX6_readNumber 58 = .ok (.invokevirtual 42, 3) := by decide +kernel
theorem dX6_readNumber_61 : decode cX6_readNumber 61 = .ok (.return_, 1) := by decide +kernel
theorem dX6_ahead_0 : decode cX6_ahead 0 = .ok (.aload_n 0, 1) := by decide +kernel
theorem dX6_ahead_1 : decode cX6_ahead 1 = .ok (.getfield 25, 3) := by decide +kernel
theorem dX6_ahead_4 : decode cX6_ahead 4 = .ok (.aload_n 0, 1) := by decide +kernel
theorem dX6_ahead_5 : decode cX6_ahead 5 = .ok (.getfield 18, 3) := by decide +kernel
theorem dX6_ahead_8 : decode cX6_ahead 8 = .ok (.if_icmp .ge 15, 3) := by decide +kernel
theorem dX6_ahead_11 : decode cX6_ahead 11 = .ok (.aload_n 0, 1) := by decide +kernel
theorem dX6_ahead_12 : decode cX6_ahead 12 = .ok (.getfield 11, 3) := by decide +kernel
theorem dX6_ahead_15 : decode cX6_ahead 15 = .ok (.aload_n 0, 1) := by decide +kernel
theorem dX6_ahead_16 : decode cX6_ahead 16 = .ok (.getfield 25, 3) := by decide +kernel
theorem dX6_ahead_19 : decode cX6_ahead 19 = .ok (.iaload, 1) := by decide +kernel
theorem dX6_ahead_20 : decode cX6_ahead 20 = .ok (.goto 4, 3) := by decide +kernel
theorem dX6_ahead_23 : decode cX6_ahead 23 = .ok (.iconst (-1), 1) := by decide +kernel
theorem dX6_ahead_24 : decode cX6_ahead 24 = .ok (.ireturn, 1) := by decide +kernel
theorem dX6_takes_0 : decode cX6_takes 0 = .ok (.aload_n 0, 1) := by decide +kernel
theorem dX6_takes_1 : decode cX6_takes 1 = .ok (.getfield 28, 3) := by decide +kernel
theorem dX6_takes_4 : decode cX6_takes 4 = .ok (.iconst (-1), 1) := by decide +kernel
theorem dX6_takes_5 : decode cX6_takes 5 = .ok (.if_icmp .ne 11, 3) := by decide +kernel
theorem dX6_takes_8 : decode cX6_takes 8 = .ok (.aload_n 0, 1) := by decide +kernel
theorem dX6_takes_9 : decode cX6_takes 9 = .ok (.invokevirtual 49, 3) := by decide +kernel
theorem dX6_takes_12 : decode cX6_takes 12 = .ok (.iload_n 1, 1) := by decide +kernel
theorem dX6_takes_13 : decode cX6_takes 13 = .ok (.if_icmp .eq 5, 3) := by decide +kernel
theorem dX6_takes_16 : decode cX6_takes 16 = .ok (.iconst 0, 1) := by decide +kernel
theorem dX6_takes_17 : decode cX6_takes 17 = .ok (.ireturn, 1) := by decide +kernel
theorem dX6_takes_18 : decode cX6_takes 18 = .ok (.aload_n 0, 1) := by decide +kernel
theorem dX6_takes_19 : decode cX6_takes 19 = .ok (.dup, 1) := by decide +kernel
theorem dX6_takes_20 : decode cX6_takes 20 = .ok (.getfield 25, 3) := by decide +kernel
theorem dX6_takes_23 : decode cX6_takes 23 = .ok (.iconst 1, 1) := by decide +kernel
theorem dX6_takes_24 : decode cX6_takes 24 = .ok (.iadd, 1) := by decide +kernel
theorem dX6_takes_25 : decode cX6_takes 25 = .ok (.putfield 25, 3) := by decide +kernel
theorem dX6_takes_28 : decode cX6_takes 28 = .ok (.iconst 1, 1) := by decide +kernel
theorem dX6_takes_29 : decode cX6_takes 29 = .ok (.ireturn, 1) := by decide +kernel
theorem dX6_write_0 : decode cX6_write 0 = .ok (.aload_n 0, 1) := by decide +kernel
theorem dX6_write_1 : decode cX6_write 1 = .ok (.getfield 22, 3) := by decide +kernel
theorem dX6_write_4 : decode cX6_write 4 = .ok (.aload_n 0, 1) := by decide +kernel
theorem dX6_write_5 : decode cX6_write 5 = .ok (.getfield 15, 3) := by decide +kernel
theorem dX6_write_8 : decode cX6_write 8 = .ok (.arraylength, 1) := by decide +kernel
theorem dX6_write_9 : decode cX6_write 9 = .ok (.if_icmp .ge 23, 3) := by decide +kernel
theorem dX6_write_12 : decode cX6_write 12 = .ok (.aload_n 0, 1) := by decide +kernel
theorem dX6_write_13 : decode cX6_write 13 = .ok (.getfield 15, 3) := by decide +kernel
theorem dX6_write_16 : decode cX6_write 16 = .ok (.aload_n 0, 1) := by decide +kernel
theorem dX6_write_17 : decode cX6_write 17 = .ok (.getfield 22, 3) := by decide +kernel
theorem dX6_write_20 : decode cX6_write 20 = .ok (.iload_n 1, 1) := by decide +kernel
theorem dX6_write_21 : decode cX6_write 21 = .ok (.iastore, 1) := by decide +kernel
theorem dX6_write_22 : decode cX6_write 22 = .ok (.aload_n 0, 1) := by decide +kernel
theorem dX6_write_23 : decode cX6_write 23 = .ok (.dup, 1) := by decide +kernel
theorem dX6_write_24 : decode cX6_write 24 = .ok (.getfield 22, 3) := by decide +kernel
theorem dX6_write_27 : decode cX6_write 27 = .ok (.iconst 1, 1) := by decide +kernel
theorem dX6_write_28 : decode cX6_write 28 = .ok (.iadd, 1) := by decide +kernel
theorem dX6_write_29 : decode cX6_write 29 = .ok (.putfield 22, 3) := by decide +kernel
theorem dX6_write_32 : decode cX6_write 32 = .ok (.return_, 1) := by decide +kernel
theorem dX7_init_0 : decode cX7_init 0 = .ok (.aload_n 0, 1) := by decide +kernel
theorem dX7_init_1 : decode cX7_init 1 = .ok (.invokespecial 3, 3) := by decide +kernel
theorem dX7_init_4 : decode cX7_init 4 = .ok (.aload_n 0, 1) := by decide +kernel
theorem dX7_init_5 : decode cX7_init 5 = .ok (.bipush 121, 2) := by decide +kernel
theorem dX7_init_7 : decode cX7_init 7 = .ok (.newarray .int, 2) := by decide +kernel
theorem dX7_init_9 : decode cX7_init 9 = .ok (.putfield 11, 3) := by decide +kernel
theorem dX7_init_12 : decode cX7_init 12 = .ok (.aload_n 0, 1) := by decide +kernel
theorem dX7_init_13 : decode cX7_init 13 = .ok (.bipush 121, 2) := by decide +kernel
theorem dX7_init_15 : decode cX7_init 15 = .ok (.newarray .int, 2) := by decide +kernel
theorem dX7_init_17 : decode cX7_init 17 = .ok (.putfield 17, 3) := by decide +kernel
theorem dX7_init_20 : decode cX7_init 20 = .ok (.aload_n 0, 1) := by decide +kernel
theorem dX7_init_21 : decode cX7_init 21 = .ok (.aload_n 1, 1) := by decide +kernel
theorem dX7_init_22 : decode cX7_init 22 = .ok (.putfield 20, 3) := by decide +kernel
theorem dX7_init_25 : decode cX7_init 25 = .ok (.aload_n 0, 1) := by decide +kernel
theorem dX7_init_26 : decode cX7_init 26 = .ok (.getfield 11, 3) := by decide +kernel
theorem dX7_init_29 : decode cX7_init 29 = .ok (.iconst 0, 1) := by decide +kernel
theorem dX7_init_30 : decode cX7_init 30 = .ok (.bipush (-112), 2) := by decide +kernel
theorem dX7_init_32 : decode cX7_init 32 = .ok (.iastore, 1) := by decide +kernel
theorem dX7_init_33 : decode cX7_init 33 = .ok (.aload_n 0, 1) := by decide +kernel
theorem dX7_init_34 : decode cX7_init 34 = .ok (.getfield 11, 3) := by decide +kernel
theorem dX7_init_37 : decode cX7_init 37 = .ok (.iconst 1, 1) := by decide +kernel
theorem dX7_init_38 : decode cX7_init 38 = .ok (.bipush (-59), 2) := by decide +kernel
theorem dX7_init_40 : decode cX7_init 40 = .ok (.iastore, 1) := by decide +kernel
theorem dX7_init_41 : decode cX7_init 41 = .ok (.aload_n 0, 1) := by decide +kernel
theorem dX7_init_42 : decode cX7_init 42 = .ok (.iconst 2, 1) := by decide +kernel
theorem dX7_init_43 : decode cX7_init 43 = .ok (.putfield 24, 3) := by decide +kernel
theorem dX7_init_46 : decode cX7_init 46 = .ok (.return_, 1) := by decide +kernel
theorem dX7_learn_0 : decode cX7_learn 0 = .ok (.aload_n 0, 1) := by decide +kernel
theorem dX7_learn_1 : decode cX7_learn 1 = .ok (.aload_n 1, 1) := by decide +kernel
theorem dX7_learn_2 : decode cX7_learn 2 = .ok (.invokevirtual 28, 3) := by decide +kernel
theorem dX7_learn_5 : decode cX7_learn 5 = .ok (.aload_n 0, 1) := by decide +kernel
theorem dX7_learn_6 : decode cX7_learn 6 = .ok (.getfield 11, 3) := by decide +kernel
theorem dX7_learn_9 : decode cX7_learn 9 = .ok (.arraylength, 1) := by decide +kernel
theorem dX7_learn_10 : decode cX7_learn 10 = .ok (.invokestatic 32, 3) := by decide +kernel
theorem dX7_learn_13 : decode cX7_learn 13 = .ok (.putfield 24, 3) := by decide +kernel
