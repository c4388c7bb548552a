theorem dX3_init_14 : decode cX3_init 14 = .ok (.bipush 32, 2) := by decide +kernel
theorem dX3_init_16 : decode cX3_init 16 = .ok (.newarray .int, 2) := by decide +kernel
theorem dX3_init_18 : decode cX3_init 18 = .ok (.putfield 15, 3) := by decide +kernel
theorem dX3_init_21 : decode cX3_init 21 = .ok (.aload_n 0, 1) := by decide +kernel
theorem dX3_init_22 : decode cX3_init 22 = .ok (.getfield 11, 3) := by decide +kernel
theorem dX3_init_25 : decode cX3_init 25 = .ok (.ldc 18, 2) := by decide +kernel
theorem dX3_init_27 : decode cX3_init 27 = .ok (.invokestatic 19, 3) := by decide +kernel
theorem dX3_init_30 : decode cX3_init 30 = .ok (.aload_n 0, 1) := by decide +kernel
theorem dX3_init_31 : decode cX3_init 31 = .ok (.getfield 11, 3) := by decide +kernel
theorem dX3_init_34 : decode cX3_init 34 = .ok (.iconst 0, 1) := by decide +kernel
theorem dX3_init_35 : decode cX3_init 35 = .ok (.dup2, 1) := by decide +kernel
theorem dX3_init_36 : decode cX3_init 36 = .ok (.iaload, 1) := by decide +kernel
theorem dX3_init_37 : decode cX3_init 37 = .ok (.bipush 6, 2) := by decide +kernel
theorem dX3_init_39 : decode cX3_init 39 = .ok (.ixor, 1) := by decide +kernel
theorem dX3_init_40 : decode cX3_init 40 = .ok (.iastore, 1) := by decide +kernel
theorem dX3_init_41 : decode cX3_init 41 = .ok (.iconst 3, 1) := by decide +kernel
theorem dX3_init_42 : decode cX3_init 42 = .ok (.istore_n 1, 1) := by decide +kernel
theorem dX3_init_43 : decode cX3_init 43 = .ok (.iload_n 1, 1) := by decide +kernel
theorem dX3_init_44 : decode cX3_init 44 = .ok (.iload_n 1, 1) := by decide +kernel
theorem dX3_init_45 : decode cX3_init 45 = .ok (.imul, 1) := by decide +kernel
theorem dX3_init_46 : decode cX3_init 46 = .ok (.ldc 25, 2) := by decide +kernel
theorem dX3_init_48 : decode cX3_init 48 = .ok (.if_icmp .ge 27, 3) := by decide +kernel
theorem dX3_init_51 : decode cX3_init 51 = .ok (.aload_n 0, 1) := by decide +kernel
theorem dX3_init_52 : decode cX3_init 52 = .ok (.iload_n 1, 1) := by decide +kernel
theorem dX3_init_53 : decode cX3_init 53 = .ok (.invokevirtual 26, 3) := by decide +kernel
theorem dX3_init_56 : decode cX3_init 56 = .ok (.ifCond .eq 13, 3) := by decide +kernel
theorem dX3_init_59 : decode cX3_init 59 = .ok (.aload_n 0, 1) := by decide +kernel
theorem dX3_init_60 : decode cX3_init 60 = .ok (.iload_n 1, 1) := by decide +kernel
theorem dX3_init_61 : decode cX3_init 61 = .ok (.iload_n 1, 1) := by decide +kernel
theorem dX3_init_62 : decode cX3_init 62 = .ok (.imul, 1) := by decide +kernel
theorem dX3_init_63 : decode cX3_init 63 = .ok (.iconst 2, 1) := by decide +kernel
theorem dX3_init_64 : decode cX3_init 64 = .ok (.iload_n 1, 1) := by decide +kernel
theorem dX3_init_65 : decode cX3_init 65 = .ok (.imul, 1) := by decide +kernel
theorem dX3_init_66 : decode cX3_init 66 = .ok (.invokevirtual 30, 3) := by decide +kernel
theorem dX3_init_69 : decode cX3_init 69 = .ok (.iinc 1 2, 3) := by decide +kernel
theorem dX3_init_72 : decode cX3_init 72 = .ok (.goto (-29), 3) := by decide +kernel
theorem dX3_init_75 : decode cX3_init 75 = .ok (.return_, 1) := by decide +kernel
theorem dX3_strikeFrom_0 : decode cX3_strikeFrom 0 = .ok (.iload_n 1, 1) := by decide +kernel
theorem dX3_strikeFrom_1 : decode cX3_strikeFrom 1 = .ok (.istore_n 3, 1) := by decide +kernel
theorem dX3_strikeFrom_2 : decode cX3_strikeFrom 2 = .ok (.iload_n 3, 1) := by decide +kernel
theorem dX3_strikeFrom_3 : decode cX3_strikeFrom 3 = .ok (.ldc 25, 2) := by decide +kernel
theorem dX3_strikeFrom_5 : decode cX3_strikeFrom 5 = .ok (.if_icmp .ge 29, 3) := by decide +kernel
theorem dX3_strikeFrom_8 : decode cX3_strikeFrom 8 = .ok (.aload_n 0, 1) := by decide +kernel
theorem dX3_strikeFrom_9 : decode cX3_strikeFrom 9 = .ok (.getfield 11, 3) := by decide +kernel
theorem dX3_strikeFrom_12 : decode cX3_strikeFrom 12 = .ok (.iload_n 3, 1) := by decide +kernel
theorem dX3_strikeFrom_13 : decode cX3_strikeFrom 13 = .ok (.iconst 5, 1) := by decide +kernel
theorem dX3_strikeFrom_14 : decode cX3_strikeFrom 14 = .ok (.ishr, 1) := by decide +kernel
theorem dX3_strikeFrom_15 : decode cX3_strikeFrom 15 = .ok (.dup2, 1) := by decide +kernel
theorem dX3_strikeFrom_16 : decode cX3_strikeFrom 16 = .ok (.iaload, 1) := by decide +kernel
theorem dX3_strikeFrom_17 : decode cX3_strikeFrom 17 = .ok (.iconst 1, 1) := by decide +kernel
theorem dX3_strikeFrom_18 : decode cX3_strikeFrom 18 = .ok (.iload_n 3, 1) := by decide +kernel
theorem dX3_strikeFrom_19 : decode cX3_strikeFrom 19 = .ok (.bipush 31, 2) := by decide +kernel
theorem dX3_strikeFrom_21 : decode cX3_strikeFrom 21 = .ok (.iand, 1) := by decide +kernel
theorem dX3_strikeFrom_22 : decode cX3_strikeFrom 22 = .ok (.ishl, 1) := by decide +kernel
theorem dX3_strikeFrom_23 : decode cX3_strikeFrom 23 = .ok (.iconst (-1), 1) := by decide +kernel
theorem dX3_strikeFrom_24 : decode cX3_strikeFrom 24 = .ok (.ixor, 1) := by decide +kernel
theorem dX3_strikeFrom_25 : decode cX3_strikeFrom 25 = .ok (.iand, 1) := by decide +kernel
theorem dX3_strikeFrom_26 : decode cX3_strikeFrom 26 = .ok (.iastore, 1) := by decide +kernel
theorem dX3_strikeFrom_27 : decode cX3_strikeFrom 27 = .ok (.iload_n 3, 1) := by decide +kernel
theorem dX3_strikeFrom_28 : decode cX3_strikeFrom 28 = .ok (.iload_n 2, 1) := by decide +kernel
theorem dX3_strikeFrom_29 : decode cX3_strikeFrom 29 = .ok (.iadd, 1) := by decide +kernel
theorem dX3_strikeFrom_30 : decode cX3_strikeFrom 30 = .ok (.istore_n 3, 1) := by decide +kernel
theorem dX3_strikeFrom_31 : decode cX3_strikeFrom 31 = .ok (.goto (-29), 3) := by decide +kernel
theorem dX3_strikeFrom_34 : decode cX3_strikeFrom 34 = .ok (.return_, 1) := by decide +kernel
theorem dX3_sieved_0 : decode cX3_sieved 0 = .ok (.aload_n 0, 1) := by decide +kernel
theorem dX3_sieved_1 : decode cX3_sieved 1 = .ok (.getfield 11, 3) := by decide +kernel
theorem dX3_sieved_4 : decode cX3_sieved 4 = .ok (.iload_n 1, 1) := by decide +kernel
theorem dX3_sieved_5 : decode cX3_sieved 5 = .ok (.iconst 5, 1) := by decide +kernel
theorem dX3_sieved_6 : decode cX3_sieved 6 = .ok (.ishr, 1) := by decide +kernel
theorem dX3_sieved_7 : decode cX3_sieved 7 = .ok (.iaload, 1) := by decide +kernel
theorem dX3_sieved_8 : decode cX3_sieved 8 = .ok (.iload_n 1, 1) := by decide +kernel
theorem dX3_sieved_9 : decode cX3_sieved 9 = .ok (.bipush 31, 2) := by decide +kernel
theorem dX3_sieved_11 : decode cX3_sieved 11 = .ok (.iand, 1) := by decide +kernel
theorem dX3_sieved_12 : decode cX3_sieved 12 = .ok (.ishr, 1) := by decide +kernel
theorem dX3_sieved_13 : decode cX3_sieved 13 = .ok (.iconst 1, 1) := by decide +kernel
theorem dX3_sieved_14 : decode cX3_sieved 14 = .ok (.iand, 1) := by decide +kernel
theorem dX3_sieved_15 : decode cX3_sieved 15 = .ok (.iconst 1, 1) := by decide +kernel
theorem dX3_sieved_16 : decode cX3_sieved 16 = .ok (.if_icmp .ne 7, 3) := by decide +kernel
theorem dX3_sieved_19 : decode cX3_sieved 19 = .ok (.iconst 1, 1) := by decide +kernel
theorem dX3_sieved_20 : decode cX3_sieved 20 = .ok (.goto 4, 3) := by decide +kernel
theorem dX3_sieved_23 : decode cX3_sieved 23 = .ok (.iconst 0, 1) := by decide +kernel
theorem dX3_sieved_24 : decode cX3_sieved 24 = .ok (.ireturn, 1) := by decide +kernel
theorem dX3_isWhole_0 : decode cX3_isWhole 0 = .ok (.lload_n 1, 1) := by decide +kernel
theorem dX3_isWhole_1 : decode cX3_isWhole 1 = .ok (.ldc2_w 34, 3) := by decide +kernel
theorem dX3_isWhole_4 : decode cX3_isWhole 4 = .ok (.lcmp, 1) := by decide +kernel
theorem dX3_isWhole_5 : decode cX3_isWhole 5 = .ok (.ifCond .ge 5, 3) := by decide +kernel
theorem dX3_isWhole_8 : decode cX3_isWhole 8 = .ok (.iconst 0, 1) := by decide +kernel
theorem dX3_isWhole_9 : decode cX3_isWhole 9 = .ok (.ireturn, 1) := by decide +kernel
theorem dX3_isWhole_10 : decode cX3_isWhole 10 = .ok (.lload_n 1, 1) := by decide +kernel
theorem dX3_isWhole_11 : decode cX3_isWhole 11 = .ok (.ldc2_w 36, 3) := by decide +kernel
theorem dX3_isWhole_14 : decode cX3_isWhole 14 = .ok (.lcmp, 1) := by decide +kernel
theorem dX3_isWhole_15 : decode cX3_isWhole 15 = .ok (.ifCond .ge 10, 3) := by decide +kernel
theorem dX3_isWhole_18 : decode cX3_isWhole 18 = .ok (.aload_n 0, 1) := by decide +kernel
theorem dX3_isWhole_19 : decode cX3_isWhole 19 = .ok (.lload_n 1, 1) := by decide +kernel
theorem dX3_isWhole_20 : decode cX3_isWhole 20 = .ok (.l2i, 1) := by decide +kernel
theorem dX3_isWhole_21 : decode cX3_isWhole 21 = .ok (.invokevirtual 26, 3) := by decide +kernel
theorem dX3_isWhole_24 : decode cX3_isWhole 24 = .ok (.ireturn, 1) := by decide +kernel
theorem dX3_isWhole_25 : decode cX3_isWhole 25 = .ok (.getstatic 38, 3) := by decide +kernel
theorem dX3_isWhole_28 : decode cX3_isWhole 28 = .ok (.astore_n 3, 1) := by decide +kernel
theorem dX3_isWhole_29 : decode cX3_isWhole 29 = .ok (.aload_n 3, 1) := by decide +kernel
theorem dX3_isWhole_30 : decode cX3_isWhole 30 = .ok (.arraylength, 1) := by decide +kernel
theorem dX3_isWhole_31 : decode cX3_isWhole 31 = .ok (.istore 4, 2) := by decide +kernel
theorem dX3_isWhole_33 : decode cX3_isWhole 33 = .ok (.iconst 0, 1) := by decide +kernel
theorem dX3_isWhole_34 : decode cX3_isWhole 34 = .ok (.istore 5, 2) := by decide +kernel
theorem dX3_isWhole_36 : decode cX3_isWhole 36 = .ok (.iload 5, 2) := by decide +kernel
theorem dX3_isWhole_38 : decode cX3_isWhole 38 = .ok (.iload 4, 2) := by decide +kernel
theorem dX3_isWhole_40 : decode cX3_isWhole 40 = .ok (.if_icmp .ge 37, 3) := by decide +kernel
theorem dX3_isWhole_43 : decode cX3_isWhole 43 = .ok (.aload_n 3, 1) := by decide +kernel
theorem dX3_isWhole_44 : decode cX3_isWhole 44 = .ok (.iload 5, 2) := by decide +kernel
theorem dX3_isWhole_46 : decode cX3_isWhole 46 = .ok (.iaload, 1) := by decide +kernel
theorem dX3_isWhole_47 : decode cX3_isWhole 47 = .ok (.istore 6, 2) := by decide +kernel
theorem dX3_isWhole_49 : decode cX3_isWhole 49 = .ok (.lload_n 1, 1) := by decide +kernel
theorem dX3_isWhole_50 : decode cX3_isWhole 50 = .ok (.iload 6, 2) := by decide +kernel
theorem dX3_isWhole_52 : decode cX3_isWhole 52 = .ok (.i2l, 1) := by decide +kernel
theorem dX3_isWhole_53 : decode cX3_isWhole 53 = .ok (.lrem, 1) := by decide +kernel
theorem dX3_isWhole_54 : decode cX3_isWhole 54 = .ok (.lconst 0, 1) := by decide +kernel
theorem dX3_isWhole_55 : decode cX3_isWhole 55 = .ok (.lcmp, 1) := by decide +kernel
theorem dX3_isWhole_56 : decode cX3_isWhole 56 = .ok (.ifCond .eq 13, 3) := by decide +kernel
theorem dX3_isWhole_59 : decode cX3_isWhole 59 = .ok (.iload 6, 2) := by decide +kernel
theorem dX3_isWhole_61 : decode cX3_isWhole 61 = .ok (.i2l, 1) := by decide +kernel
theorem dX3_isWhole_62 : decode cX3_isWhole 62 = .ok (.lload_n 1, 1) := by decide +kernel
theorem dX3_isWhole_63 : decode cX3_isWhole 63 = .ok (.invokestatic 41, 3) := by decide +kernel
theorem dX3_isWhole_66 : decode cX3_isWhole 66 = .ok (.ifCond .eq 5, 3) := by decide +kernel
theorem dX3_isWhole_69 : decode cX3_isWhole 69 = .ok (.iconst 0, 1) := by decide +kernel
theorem dX3_isWhole_70 : decode cX3_isWhole 70 = .ok (.ireturn, 1) := by decide +kernel
theorem dX3_isWhole_71 : decode cX3_isWhole 71 = .ok (.iinc 5 1, 3) := by decide +kernel
theorem dX3_isWhole_74 : decode cX3_isWhole 74 = .ok (.goto (-38), 3) := by decide +kernel
theorem dX3_isWhole_77 : decode cX3_isWhole 77 = .ok (.iconst 1, 1) := by decide +kernel
theorem dX3_isWhole_78 : decode cX3_isWhole 78 = .ok (.ireturn, 1) := by decide +kernel
theorem dX3_besideLeast_0 : decode cX3_besideLeast 0 = .ok (.lload_n 0, 1) := by decide +kernel
theorem dX3_besideLeast_1 : decode cX3_besideLeast 1 = .ok (.sipush 10000, 3) := by decide +kernel
theorem dX3_besideLeast_4 : decode cX3_besideLeast 4 = .ok (.invokestatic 45, 3) := by decide +kernel
theorem dX3_besideLeast_7 : decode cX3_besideLeast 7 = .ok (.lstore_n 2, 1) := by decide +kernel
theorem dX3_besideLeast_8 : decode cX3_besideLeast 8 = .ok (.lload_n 2, 1) := by decide +kernel
theorem dX3_besideLeast_9 : decode cX3_besideLeast 9 = .ok (.lconst 0, 1) := by decide +kernel
theorem dX3_besideLeast_10 : decode cX3_besideLeast 10 = .ok (.lcmp, 1) := by decide +kernel
theorem dX3_besideLeast_11 : decode cX3_besideLeast 11 = .ok (.ifCond .ne 9, 3) := by decide +kernel
theorem dX3_besideLeast_14 : decode cX3_besideLeast 14 = .ok (.ldc2_w 34, 3) := by decide +kernel
theorem dX3_besideLeast_17 : decode cX3_besideLeast 17 = .ok (.goto 6, 3) := by decide +kernel
theorem dX3_besideLeast_20 : decode cX3_besideLeast 20 = .ok (.lload_n 0, 1) := by decide +kernel
theorem dX3_besideLeast_21 : decode cX3_besideLeast 21 = .ok (.lload_n 2, 1) := by decide +kernel
theorem dX3_besideLeast_22 : decode cX3_besideLeast 22 = .ok (.ldiv, 1) := by decide +kernel
theorem dX3_besideLeast_23 : decode cX3_besideLeast 23 = .ok (.lreturn, 1) := by decide +kernel
theorem dX3_leastPart_0 : decode cX3_leastPart 0 = .ok (.aload_n 0, 1) := by decide +kernel
theorem dX3_leastPart_1 : decode cX3_leastPart 1 = .ok (.lload_n 1, 1) := by decide +kernel
theorem dX3_leastPart_2 : decode cX3_leastPart 2 = .ok (.invokevirtual 49, 3) := by decide +kernel
theorem dX3_leastPart_5 : decode cX3_leastPart 5 = .ok (.ifCond .eq 5, 3) := by decide +kernel
theorem dX3_leastPart_8 : decode cX3_leastPart 8 = .ok (.lload_n 1, 1) := by decide +kernel
theorem dX3_leastPart_9 : decode cX3_leastPart 9 = .ok (.lreturn, 1) := by decide +kernel
theorem dX3_leastPart_10 : decode cX3_leastPart 10 = .ok (.lload_n 1, 1) := by decide +kernel
theorem dX3_leastPart_11 : decode cX3_leastPart 11 = .ok (.ldc 53, 2) := by decide +kernel
theorem dX3_leastPart_13 : decode cX3_leastPart 13 = .ok (.invokestatic 45, 3) := by decide +kernel
theorem dX3_leastPart_16 : decode cX3_leastPart 16 = .ok (.lstore_n 3, 1) := by decide +kernel
theorem dX3_leastPart_17 : decode cX3_leastPart 17 = .ok (.lload_n 3, 1) := by decide +kernel
theorem dX3_leastPart_18 : decode cX3_leastPart 18 = .ok (.lconst 0, 1) := by decide +kernel
theorem dX3_leastPart_19 : decode cX3_leastPart 19 = .ok (.lcmp, 1) := by decide +kernel
theorem dX3_leastPart_20 : decode cX3_leastPart 20 = .ok (.ifCond .ne 7, 3) := by decide +kernel
theorem dX3_leastPart_23 : decode cX3_leastPart 23 = .ok (.lload_n 1, 1) := by decide +kernel
theorem dX3_leastPart_24 : decode cX3_leastPart 24 = .ok (.goto 4, 3) := by decide +kernel
theorem dX3_leastPart_27 : decode cX3_leastPart 27 = .ok (.lload_n 3, 1) := by decide +kernel
theorem dX3_leastPart_28 : decode cX3_leastPart 28 = .ok (.lreturn, 1) := by decide +kernel
theorem dX3_smallPart_0 : decode cX3_smallPart 0 = .ok (.lload_n 0, 1) := by decide +kernel
theorem dX3_smallPart_1 : decode cX3_smallPart 1 = .ok (.ldc2_w 34, 3) := by decide +kernel
theorem dX3_smallPart_4 : decode cX3_smallPart 4 = .ok (.lrem, 1) := by decide +kernel
theorem dX3_smallPart_5 : decode cX3_smallPart 5 = .ok (.lconst 0, 1) := by decide +kernel
theorem dX3_smallPart_6 : decode cX3_smallPart 6 = .ok (.lcmp, 1) := by decide +kernel
theorem dX3_smallPart_7 : decode cX3_smallPart 7 = .ok (.ifCond .ne 7, 3) := by decide +kernel
theorem dX3_smallPart_10 : decode cX3_smallPart 10 = .ok (.ldc2_w 34, 3) := by decide +kernel
theorem dX3_smallPart_13 : decode cX3_smallPart 13 = .ok (.lreturn, 1) := by decide +kernel
theorem dX3_smallPart_14 : decode cX3_smallPart 14 = .ok (.lload_n 0, 1) := by decide +kernel
theorem dX3_smallPart_15 : decode cX3_smallPart 15 = .ok (.ldc2_w 54, 3) := by decide +kernel
theorem dX3_smallPart_18 : decode cX3_smallPart 18 = .ok (.lrem, 1) := by decide +kernel
theorem dX3_smallPart_19 : decode cX3_smallPart 19 = .ok (.lconst 0, 1) := by decide +kernel
theorem dX3_smallPart_20 : decode cX3_smallPart 20 = .ok (.lcmp, 1) := by decide +kernel
theorem dX3_smallPart_21 : decode cX3_smallPart 21 = .ok (.ifCond .ne 7, 3) := by decide +kernel
theorem dX3_smallPart_24 : decode cX3_smallPart 24 = .ok (.ldc2_w 54, 3) := by decide +kernel
theorem dX3_smallPart_27 : decode cX3_smallPart 27 = .ok (.lreturn, 1) := by decide +kernel
theorem dX3_smallPart_28 : decode cX3_smallPart 28 = .ok (.iconst 5, 1) := by decide +kernel
theorem dX3_smallPart_29 : decode cX3_smallPart 29 = .ok (.istore_n 3, 1) := by decide +kernel
theorem dX3_smallPart_30 : decode cX3_smallPart 30 = .ok (.iload_n 3, 1) := by decide +kernel
theorem dX3_smallPart_31 : decode cX3_smallPart 31 = .ok (.iload_n 2, 1) := by decide +kernel
theorem dX3_smallPart_32 : decode cX3_smallPart 32 = .ok (.if_icmp .gt 37, 3) := by decide +kernel
theorem dX3_smallPart_35 : decode cX3_smallPart 35 = .ok (.lload_n 0, 1) := by decide +kernel
theorem dX3_smallPart_36 : decode cX3_smallPart 36 = .ok (.iload_n 3, 1) := by decide +kernel
theorem dX3_smallPart_37 : decode cX3_smallPart 37 = .ok (.i2l, 1) := by decide +kernel
theorem dX3_smallPart_38 : decode cX3_smallPart 38 = .ok (.lrem, 1) := by decide +kernel
theorem dX3_smallPart_39 : decode cX3_smallPart 39 = .ok (.lconst 0, 1) := by decide +kernel
theorem dX3_smallPart_40 : decode cX3_smallPart 40 = .ok (.lcmp, 1) := by decide +kernel
theorem dX3_smallPart_41 : decode cX3_smallPart 41 = .ok (.ifCond .ne 6, 3) := by decide +kernel
theorem dX3_smallPart_44 : decode cX3_smallPart 44 = .ok (.iload_n 3, 1) := by decide +kernel
theorem dX3_smallPart_45 : decode cX3_smallPart 45 = .ok (.i2l, 1) := by decide +kernel
theorem dX3_smallPart_46 : decode cX3_smallPart 46 = .ok (.lreturn, 1) := by decide +kernel
theorem dX3_smallPart_47 : decode cX3_smallPart 47 = .ok (.lload_n 0, 1) := by decide +kernel
theorem dX3_smallPart_48 : decode cX3_smallPart 48 = .ok (.iload_n 3, 1) := by decide +kernel
theorem dX3_smallPart_49 : decode cX3_smallPart 49 = .ok (.iconst 2, 1) := by decide +kernel
theorem dX3_smallPart_50 : decode cX3_smallPart 50 = .ok (.iadd, 1) := by decide +kernel
theorem dX3_smallPart_51 : decode cX3_smallPart 51 = .ok (.i2l, 1) := by decide +kernel
theorem dX3_smallPart_52 : decode cX3_smallPart 52 = .ok (.lrem, 1) := by decide +kernel
theorem dX3_smallPart_53 : decode cX3_smallPart 53 = .ok (.lconst 0, 1) := by decide +kernel
theorem dX3_smallPart_54 : decode cX3_smallPart 54 = .ok (.lcmp, 1) := by decide +kernel
theorem dX3_smallPart_55 : decode cX3_smallPart 55 = .ok (.ifCond .ne 8, 3) := by decide +kernel
theorem dX3_smallPart_58 : decode cX3_smallPart 58 = .ok (.iload_n 3, 1) := by decide +kernel
theorem dX3_smallPart_59 : decode cX3_smallPart 59 = .ok (.iconst 2, 1) := by decide +kernel
theorem dX3_smallPart_60 : decode cX3_smallPart 60 = .ok (.iadd, 1) := by decide +kernel
theorem dX3_smallPart_61 : decode cX3_smallPart 61 = .ok (.i2l, 1) := by decide +kernel
theorem dX3_smallPart_62 : decode cX3_smallPart 62 = .ok (.lreturn, 1) := by decide +kernel
theorem dX3_smallPart_63 : decode cX3_smallPart 63 = .ok (.iinc 3 6, 3) := by decide +kernel
theorem dX3_smallPart_66 : decode cX3_smallPart 66 = .ok (.goto (-36), 3) := by decide +kernel
theorem dX3_smallPart_69 : decode cX3_smallPart 69 = .ok (.lconst 0, 1) := by decide +kernel
theorem dX3_smallPart_70 : decode cX3_smallPart 70 = .ok (.lreturn, 1) := by decide +kernel
theorem dX3_listParts_0 : decode cX3_listParts 0 = .ok (.iconst 0, 1) := by decide +kernel
theorem dX3_listParts_1 : decode cX3_listParts 1 = .ok (.istore_n 2, 1) := by decide +kernel
theorem dX3_listParts_2 : decode cX3_listParts 2 = .ok (.iload_n 1, 1) := by decide +kernel
theorem dX3_listParts_3 : decode cX3_listParts 3 = .ok (.i2l, 1) := by decide +kernel
theorem dX3_listParts_4 : decode cX3_listParts 4 = .ok (.lstore_n 3, 1) := by decide +kernel
theorem dX3_listParts_5 : decode cX3_listParts 5 = .ok (.iload_n 2, 1) := by decide +kernel
theorem dX3_listParts_6 : decode cX3_listParts 6 = .ok (.aload_n 0, 1) := by decide +kernel
theorem dX3_listParts_7 : decode cX3_listParts 7 = .ok (.getfield 15, 3) := by decide +kernel
theorem dX3_listParts_10 : decode cX3_listParts 10 = .ok (.arraylength, 1) := by decide +kernel
theorem dX3_listParts_11 : decode cX3_listParts 11 = .ok (.if_icmp .ge 49, 3) := by decide +kernel
theorem dX3_listParts_14 : decode cX3_listParts 14 = .ok (.lload_n 3, 1) := by decide +kernel
theorem dX3_listParts_15 : decode cX3_listParts 15 = .ok (.lconst 1, 1) := by decide +kernel
theorem dX3_listParts_16 : decode cX3_listParts 16 = .ok (.lcmp, 1) := by decide +kernel
theorem dX3_listParts_17 : decode cX3_listParts 17 = .ok (.ifCond .le 43, 3) := by decide +kernel
theorem dX3_listParts_20 : decode cX3_listParts 20 = .ok (.aload_n 0, 1) := by decide +kernel
theorem dX3_listParts_21 : decode cX3_listParts 21 = .ok (.lload_n 3, 1) := by decide +kernel
theorem dX3_listParts_22 : decode cX3_listParts 22 = .ok (.invokevirtual 56, 3) := by decide +kernel
theorem dX3_listParts_25 : decode cX3_listParts 25 = .ok (.lstore 5, 2) := by decide +kernel
theorem dX3_listParts_27 : decode cX3_listParts 27 = .ok (.aload_n 0, 1) := by decide +kernel
theorem dX3_listParts_28 : decode cX3_listParts 28 = .ok (.getfield 15, 3) := by decide +kernel
theorem dX3_listParts_31 : decode cX3_listParts 31 = .ok (.iload_n 2, 1) := by decide +kernel
theorem dX3_listParts_32 : decode cX3_listParts 32 = .ok (.lload 5, 2) := by decide +kernel
theorem dX3_listParts_34 : decode cX3_listParts 34 = .ok (.l2i, 1) := by decide +kernel
theorem dX3_listParts_35 : decode cX3_listParts 35 = .ok (.iastore, 1) := by decide +kernel
theorem dX3_listParts_36 : decode cX3_listParts 36 = .ok (.lload 5, 2) := by decide +kernel
theorem dX3_listParts_38 : decode cX3_listParts 38 = .ok (.ldc2_w 34, 3) := by decide +kernel
theorem dX3_listParts_41 : decode cX3_listParts 41 = .ok (.lcmp, 1) := by decide +kernel
theorem dX3_listParts_42 : decode cX3_listParts 42 = .ok (.ifCond .ge 7, 3) := by decide +kernel
theorem dX3_listParts_45 : decode cX3_listParts 45 = .ok (.lconst 1, 1) := by decide +kernel
theorem dX3_listParts_46 : decode cX3_listParts 46 = .ok (.goto 7, 3) := by decide +kernel
theorem dX3_listParts_49 : decode cX3_listParts 49 = .ok (.lload_n 3, 1) := by decide +kernel
theorem dX3_listParts_50 : decode cX3_listParts 50 = .ok (.lload 5, 2) := by decide +kernel
theorem dX3_listParts_52 : decode cX3_listParts 52 = .ok (.ldiv, 1) := by decide +kernel
theorem dX3_listParts_53 : decode cX3_listParts 53 = .ok (.lstore_n 3, 1) := by decide +kernel
theorem dX3_listParts_54 : decode cX3_listParts 54 = .ok (.iinc 2 1, 3) := by decide +kernel
theorem dX3_listParts_57 : decode cX3_listParts 57 = .ok (.goto (-52), 3) := by decide +kernel
theorem dX3_listParts_60 : decode cX3_listParts 60 = .ok (.iload_n 2, 1) := by decide +kernel
theorem dX3_listParts_61 : decode cX3_listParts 61 = .ok (.ireturn, 1) := by decide +kernel
theorem dX3_listed_0 : decode cX3_listed 0 = .ok (.iload_n 1, 1) := by decide +kernel
theorem dX3_listed_1 : decode cX3_listed 1 = .ok (.ifCond .lt 21, 3) := by decide +kernel
theorem dX3_listed_4 : decode cX3_listed 4 = .ok (.iload_n 1, 1) := by decide +kernel
theorem dX3_listed_5 : decode cX3_listed 5 = .ok (.aload_n 0, 1) := by decide +kernel
theorem dX3_listed_6 : decode cX3_listed 6 = .ok (.getfield 15, 3) := by decide +kernel
theorem dX3_listed_9 : decode cX3_listed 9 = .ok (.arraylength, 1) := by decide +kernel
theorem dX3_listed_10 : decode cX3_listed 10 = .ok (.if_icmp .ge 12, 3) := by decide +kernel
theorem dX3_listed_13 : decode cX3_listed 13 = .ok (.aload_n 0, 1) := by decide +kernel
theorem dX3_listed_14 : decode cX3_listed 14 = .ok (.getfield 15, 3) := by decide +kernel
theorem dX3_listed_17 : decode cX3_listed 17 = .ok (.iload_n 1, 1) := by decide +kernel
theorem dX3_listed_18 : decode cX3_listed 18 = .ok (.iaload, 1) := by decide +kernel
theorem dX3_listed_19 : decode cX3_listed 19 = .ok (.goto 4, 3) := by decide +kernel
theorem dX3_listed_22 : decode cX3_listed 22 = .ok (.iconst (-1), 1) := by decide +kernel
theorem dX3_listed_23 : decode cX3_listed 23 = .ok (.ireturn, 1) := by decide +kernel
theorem dX3_leastProof_0 : decode cX3_leastProof 0 = .ok (.aload_n 0, 1) := by decide +kernel
theorem dX3_leastProof_1 : decode cX3_leastProof 1 = .ok (.iload_n 1, 1) := by decide +kernel
theorem dX3_leastProof_2 : decode cX3_leastProof 2 = .ok (.i2l, 1) := by decide +kernel
theorem dX3_leastProof_3 : decode cX3_leastProof 3 = .ok (.invokevirtual 49, 3) := by decide +kernel
theorem dX3_leastProof_6 : decode cX3_leastProof 6 = .ok (.ifCond .ne 6, 3) := by decide +kernel
theorem dX3_leastProof_9 : decode cX3_leastProof 9 = .ok (.bipush (-2), 2) := by decide +kernel
theorem dX3_leastProof_11 : decode cX3_leastProof 11 = .ok (.ireturn, 1) := by decide +kernel
theorem dX3_leastProof_12 : decode cX3_leastProof 12 = .ok (.aload_n 0, 1) := by decide +kernel
theorem dX3_leastProof_13 : decode cX3_leastProof 13 = .ok (.iload_n 1, 1) := by decide +kernel
theorem dX3_leastProof_14 : decode cX3_leastProof 14 = .ok (.iconst 1, 1) := by decide +kernel
theorem dX3_leastProof_15 : decode cX3_leastProof 15 = .ok (.isub, 1) := by decide +kernel
theorem dX3_leastProof_16 : decode cX3_leastProof 16 = .ok (.invokevirtual 60, 3) := by decide +kernel
theorem dX3_leastProof_19 : decode cX3_leastProof 19 = .ok (.istore_n 2, 1) := by decide +kernel
theorem dX3_leastProof_20 : decode cX3_leastProof 20 = .ok (.iconst 2, 1) := by decide +kernel
theorem dX3_leastProof_21 : decode cX3_leastProof 21 = .ok (.istore_n 3, 1) := by decide +kernel
theorem dX3_leastProof_22 : decode cX3_leastProof 22 = .ok (.iload_n 3, 1) := by decide +kernel
theorem dX3_leastProof_23 : decode cX3_leastProof 23 = .ok (.iload_n 1, 1) := by decide +kernel
theorem dX3_leastProof_24 : decode cX3_leastProof 24 = .ok (.if_icmp .ge 21, 3) := by decide +kernel
theorem dX3_leastProof_27 : decode cX3_leastProof 27 = .ok (.aload_n 0, 1) := by decide +kernel
theorem dX3_leastProof_28 : decode cX3_leastProof 28 = .ok (.iload_n 1, 1) := by decide +kernel
theorem dX3_leastProof_29 : decode cX3_leastProof 29 = .ok (.iload_n 3, 1) := by decide +kernel
theorem dX3_leastProof_30 : decode cX3_leastProof 30 = .ok (.iload_n 2, 1) := by decide +kernel
theorem dX3_leastProof_31 : decode cX3_leastProof 31 = .ok (.invokevirtual 64, 3) := by decide +kernel
theorem dX3_leastProof_34 : decode cX3_leastProof 34 = .ok (.ifCond .eq 5, 3) := by decide +kernel
theorem dX3_leastProof_37 : decode cX3_leastProof 37 = .ok (.iload_n 3, 1) := by decide +kernel
theorem dX3_leastProof_38 : decode cX3_leastProof 38 = .ok (.ireturn, 1) := by decide +kernel
theorem dX3_leastProof_39 : decode cX3_leastProof 39 = .ok (.iinc 3 1, 3) := by decide +kernel
theorem dX3_leastProof_42 : decode cX3_leastProof 42 = .ok (.goto (-20), 3) := by decide +kernel
theorem dX3_leastProof_45 : decode cX3_leastProof 45 = .ok (.bipush (-2), 2) := by decide +kernel
theorem dX3_leastProof_47 : decode cX3_leastProof 47 = .ok (.ireturn, 1) := by decide +kernel
theorem dX3_proves_0 : decode cX3_proves 0 = .ok (.iload_n 2, 1) := by decide +kernel
theorem dX3_proves_1 : decode cX3_proves 1 = .ok (.i2l, 1) := by decide +kernel
theorem dX3_proves_2 : decode cX3_proves 2 = .ok (.iload_n 1, 1) := by decide +kernel
theorem dX3_proves_3 : decode cX3_proves 3 = .ok (.iconst 1, 1) := by decide +kernel
theorem dX3_proves_4 : decode cX3_proves 4 = .ok (.isub, 1) := by decide +kernel
theorem dX3_proves_5 : decode cX3_proves 5 = .ok (.i2l, 1) := by decide +kernel
theorem dX3_proves_6 : decode cX3_proves 6 = .ok (.iload_n 1, 1) := by decide +kernel
theorem dX3_proves_7 : decode cX3_proves 7 = .ok (.i2l, 1) := by decide +kernel
theorem dX3_proves_8 : decode cX3_proves 8 = .ok (.invokestatic 68, 3) := by decide +kernel
theorem dX3_proves_11 : decode cX3_proves 11 = .ok (.lconst 1, 1) := by decide +kernel
theorem dX3_proves_12 : decode cX3_proves 12 = .ok (.lcmp, 1) := by decide +kernel
theorem dX3_proves_13 : decode cX3_proves 13 = .ok (.ifCond .eq 5, 3) := by decide +kernel
theorem dX3_proves_16 : decode cX3_proves 16 = .ok (.iconst 0, 1) := by decide +kernel
theorem dX3_proves_17 : decode cX3_proves 17 = .ok (.ireturn, 1) := by decide +kernel
theorem dX3_proves_18 : decode cX3_proves 18 = .ok (.iconst 0, 1) := by decide +kernel
theorem dX3_proves_19 : decode cX3_proves 19 = .ok (.istore 4, 2) := by decide +kernel
theorem dX3_proves_21 : decode cX3_proves 21 = .ok (.iload 4, 2) := by decide +kernel
theorem dX3_proves_23 : decode cX3_proves 23 = .ok (.iload_n 3, 1) := by decide +kernel
theorem dX3_proves_24 : decode cX3_proves 24 = .ok (.if_icmp .ge 55, 3) := by decide +kernel
theorem dX3_proves_27 : decode cX3_proves 27 = .ok (.iload 4, 2) := by decide +kernel
theorem dX3_proves_29 : decode cX3_proves 29 = .ok (.aload_n 0, 1) := by decide +kernel
theorem dX3_proves_30 : decode cX3_proves 30 = .ok (.getfield 15, 3) := by decide +kernel
theorem dX3_proves_33 : decode cX3_proves 33 = .ok (.arraylength, 1) := by decide +kernel
theorem dX3_proves_34 : decode cX3_proves 34 = .ok (.if_icmp .ge 45, 3) := by decide +kernel
theorem dX3_proves_37 : decode cX3_proves 37 = .ok (.aload_n 0, 1) := by decide +kernel
theorem dX3_proves_38 : decode cX3_proves 38 = .ok (.getfield 15, 3) := by decide +kernel
theorem dX3_proves_41 : decode cX3_proves 41 = .ok (.iload 4, 2) := by decide +kernel
theorem dX3_proves_43 : decode cX3_proves 43 = .ok (.iaload, 1) := by decide +kernel
theorem dX3_proves_44 : decode cX3_proves 44 = .ok (.ifCond .le 29, 3) := by decide +kernel
theorem dX3_proves_47 : decode cX3_proves 47 = .ok (.iload_n 2, 1) := by decide +kernel
theorem dX3_proves_48 : decode cX3_proves 48 = .ok (.i2l, 1) := by decide +kernel
theorem dX3_proves_49 : decode cX3_proves 49 = .ok (.iload_n 1, 1) := by decide +kernel
theorem dX3_proves_50 : decode cX3_proves 50 = .ok (.iconst 1, 1) := by decide +kernel
theorem dX3_proves_51 : decode cX3_proves 51 = .ok (.isub, 1) := by decide +kernel
theorem dX3_proves_52 : decode cX3_proves 52 = .ok (.aload_n 0, 1) := by decide +kernel
theorem dX3_proves_53 : decode cX3_proves 53 = .ok (.getfield 15, 3) := by decide +kernel
theorem dX3_proves_56 : decode cX3_proves 56 = .ok (.iload 4, 2) := by decide +kernel
theorem dX3_proves_58 : decode cX3_proves 58 = .ok (.iaload, 1) := by decide +kernel
theorem dX3_proves_59 : decode cX3_proves 59 = .ok (.idiv, 1) := by decide +kernel
theorem dX3_proves_60 : decode cX3_proves 60 = .ok (.i2l, 1) := by decide +kernel
theorem dX3_proves_61 : decode cX3_proves 61 = .ok (.iload_n 1, 1) := by decide +kernel
theorem dX3_proves_62 : decode cX3_proves 62 = .ok (.i2l, 1) := by decide +kernel
theorem dX3_proves_63 : decode cX3_proves 63 = .ok (.invokestatic 68, 3) := by decide +kernel
theorem dX3_proves_66 : decode cX3_proves 66 = .ok (.lconst 1, 1) := by decide +kernel
theorem dX3_proves_67 : decode cX3_proves 67 = .ok (.lcmp, 1) := by decide +kernel
theorem dX3_proves_68 : decode cX3_proves 68 = .ok (.ifCond .ne 5, 3) := by decide +kernel
theorem dX3_proves_71 : decode cX3_proves 71 = .ok (.iconst 0, 1) := by decide +kernel
theorem dX3_proves_72 : decode cX3_proves 72 = .ok (.ireturn, 1) := by decide +kernel
theorem dX3_proves_73 : decode cX3_proves 73 = .ok (.iinc 4 1, 3) := by decide +kernel
theorem dX3_proves_76 : decode cX3_proves 76 = .ok (.goto (-55), 3) := by decide +kernel
theorem dX3_proves_79 : decode cX3_proves 79 = .ok (.iconst 1, 1) := by decide +kernel
theorem dX3_proves_80 : decode cX3_proves 80 = .ok (.ireturn, 1) := by decide +kernel
theorem dX3_power_0 : decode cX3_power 0 = .ok (.lconst 1, 1) := by decide +kernel
theorem dX3_power_1 : decode cX3_power 1 = .ok (.lstore 6, 2) := by decide +kernel
theorem dX3_power_3 : decode cX3_power 3 = .ok (.lload_n 0, 1) := by decide +kernel
theorem dX3_power_4 : decode cX3_power 4 = .ok (.lstore 8, 2) := by decide +kernel
theorem dX3_power_6 : decode cX3_power 6 = .ok (.lload_n 2, 1) := by decide +kernel
theorem dX3_power_7 : decode cX3_power 7 = .ok (.lstore 10, 2) := by decide +kernel
theorem dX3_power_9 : decode cX3_power 9 = .ok (.lload 10, 2) := by decide +kernel
theorem dX3_power_11 : decode cX3_power 11 = .ok (.lconst 0, 1) := by decide +kernel
theorem dX3_power_12 : decode cX3_power 12 = .ok (.lcmp, 1) := by decide +kernel
theorem dX3_power_13 : decode cX3_power 13 = .ok (.ifCond .le 43, 3) := by decide +kernel
theorem dX3_power_16 : decode cX3_power 16 = .ok (.lload 10, 2) := by decide +kernel
theorem dX3_power_18 : decode cX3_power 18 = .ok (.lconst 1, 1) := by decide +kernel
theorem dX3_power_19 : decode cX3_power 19 = .ok (.land, 1) := by decide +kernel
theorem dX3_power_20 : decode cX3_power 20 = .ok (.lconst 1, 1) := by decide +kernel
theorem dX3_power_21 : decode cX3_power 21 = .ok (.lcmp, 1) := by decide +kernel
theorem dX3_power_22 : decode cX3_power 22 = .ok (.ifCond .ne 14, 3) := by decide +kernel
theorem dX3_power_25 : decode cX3_power 25 = .ok (.lload 6, 2) := by decide +kernel
theorem dX3_power_27 : decode cX3_power 27 = .ok (.lload 8, 2) := by decide +kernel
theorem dX3_power_29 : decode cX3_power 29 = .ok (.lload 4, 2) := by decide +kernel
theorem dX3_power_31 : decode cX3_power 31 = .ok (.invokestatic 72, 3) := by decide +kernel
theorem dX3_power_34 : decode cX3_power 34 = .ok (.lstore 6, 2) := by decide +kernel
theorem dX3_power_36 : decode cX3_power 36 = .ok (.lload 8, 2) := by decide +kernel
theorem dX3_power_38 : decode cX3_power 38 = .ok (.lload 8, 2) := by decide +kernel
theorem dX3_power_40 : decode cX3_power 40 = .ok (.lload 4, 2) := by decide +kernel
theorem dX3_power_42 : decode cX3_power 42 = .ok (.invokestatic 72, 3) := by decide +kernel
theorem dX3_power_45 : decode cX3_power 45 = .ok (.lstore 8, 2) := by decide +kernel
theorem dX3_power_47 : decode cX3_power 47 = .ok (.lload 10, 2) := by decide +kernel
theorem dX3_power_49 : decode cX3_power 49 = .ok (.iconst 1, 1) := by decide +kernel
theorem dX3_power_50 : decode cX3_power 50 = .ok (.lshr, 1) := by decide +kernel
theorem dX3_power_51 : decode cX3_power 51 = .ok (.lstore 10, 2) := by decide +kernel
theorem dX3_power_53 : decode cX3_power 53 = .ok (.goto (-44), 3) := by decide +kernel
theorem dX3_power_56 : decode cX3_power 56 = .ok (.lload 6, 2) := by decide +kernel
theorem dX3_power_58 : decode cX3_power 58 = .ok (.lreturn, 1) := by decide +kernel
theorem dX3_showsParts_0 : decode cX3_showsParts 0 = .ok (.lconst 1, 1) := by decide +kernel
theorem dX3_showsParts_1 : decode cX3_showsParts 1 = .ok (.lstore 4, 2) := by decide +kernel
theorem dX3_showsParts_3 : decode cX3_showsParts 3 = .ok (.bipush 40, 2) := by decide +kernel
theorem dX3_showsParts_5 : decode cX3_showsParts 5 = .ok (.istore 6, 2) := by decide +kernel
theorem dX3_showsParts_7 : decode cX3_showsParts 7 = .ok (.iload 6, 2) := by decide +kernel
theorem dX3_showsParts_9 : decode cX3_showsParts 9 = .ok (.ifCond .lt 71, 3) := by decide +kernel
theorem dX3_showsParts_12 : decode cX3_showsParts 12 = .ok (.lload 4, 2) := by decide +kernel
theorem dX3_showsParts_14 : decode cX3_showsParts 14 = .ok (.lload 4, 2) := by decide +kernel
theorem dX3_showsParts_16 : decode cX3_showsParts 16 = .ok (.lload_n 2, 1) := by decide +kernel
theorem dX3_showsParts_17 : decode cX3_showsParts 17 = .ok (.invokestatic 72, 3) := by decide +kernel
theorem dX3_showsParts_20 : decode cX3_showsParts 20 = .ok (.lstore 7, 2) := by decide +kernel
theorem dX3_showsParts_22 : decode cX3_showsParts 22 = .ok (.lload 7, 2) := by decide +kernel
theorem dX3_showsParts_24 : decode cX3_showsParts 24 = .ok (.lconst 1, 1) := by decide +kernel
theorem dX3_showsParts_25 : decode cX3_showsParts 25 = .ok (.lcmp, 1) := by decide +kernel
theorem dX3_showsParts_26 : decode cX3_showsParts 26 = .ok (.ifCond .ne 21, 3) := by decide +kernel
theorem dX3_showsParts_29 : decode cX3_showsParts 29 = .ok (.lload 4, 2) := by decide +kernel
theorem dX3_showsParts_31 : decode cX3_showsParts 31 = .ok (.lconst 1, 1) := by decide +kernel
theorem dX3_showsParts_32 : decode cX3_showsParts 32 = .ok (.lcmp, 1) := by decide +kernel
theorem dX3_showsParts_33 : decode cX3_showsParts 33 = .ok (.ifCond .eq 14, 3) := by decide +kernel
theorem dX3_showsParts_36 : decode cX3_showsParts 36 = .ok (.lload 4, 2) := by decide +kernel
theorem dX3_showsParts_38 : decode cX3_showsParts 38 = .ok (.lload_n 2, 1) := by decide +kernel
theorem dX3_showsParts_39 : decode cX3_showsParts 39 = .ok (.lconst 1, 1) := by decide +kernel
theorem dX3_showsParts_40 : decode cX3_showsParts 40 = .ok (.lsub, 1) := by decide +kernel
theorem dX3_showsParts_41 : decode cX3_showsParts 41 = .ok (.lcmp, 1) := by decide +kernel
theorem dX3_showsParts_42 : decode cX3_showsParts 42 = .ok (.ifCond .eq 5, 3) := by decide +kernel
theorem dX3_showsParts_45 : decode cX3_showsParts 45 = .ok (.iconst 1, 1) := by decide +kernel
theorem dX3_showsParts_46 : decode cX3_showsParts 46 = .ok (.ireturn, 1) := by decide +kernel
theorem dX3_showsParts_47 : decode cX3_showsParts 47 = .ok (.lload_n 2, 1) := by decide +kernel
theorem dX3_showsParts_48 : decode cX3_showsParts 48 = .ok (.lconst 1, 1) := by decide +kernel
theorem dX3_showsParts_49 : decode cX3_showsParts 49 = .ok (.lsub, 1) := by decide +kernel
theorem dX3_showsParts_50 : decode cX3_showsParts 50 = .ok (.iload 6, 2) := by decide +kernel
theorem dX3_showsParts_52 : decode cX3_showsParts 52 = .ok (.lshr, 1) := by decide +kernel
theorem dX3_showsParts_53 : decode cX3_showsParts 53 = .ok (.lconst 1, 1) := by decide +kernel
theorem dX3_showsParts_54 : decode cX3_showsParts 54 = .ok (.land, 1) := by decide +kernel
theorem dX3_showsParts_55 : decode cX3_showsParts 55 = .ok (.lconst 1, 1) := by decide +kernel
theorem dX3_showsParts_56 : decode cX3_showsParts 56 = .ok (.lcmp, 1) := by decide +kernel
theorem dX3_showsParts_57 : decode cX3_showsParts 57 = .ok (.ifCond .ne 13, 3) := by decide +kernel
theorem dX3_showsParts_60 : decode cX3_showsParts 60 = .ok (.lload 7, 2) := by decide +kernel
theorem dX3_showsParts_62 : decode cX3_showsParts 62 = .ok (.lload_n 0, 1) := by decide +kernel
theorem dX3_showsParts_63 : decode cX3_showsParts 63 = .ok (.lload_n 2, 1) := by decide +kernel
theorem dX3_showsParts_64 : decode cX3_showsParts 64 = .ok (.invokestatic 72, 3) := by decide +kernel
theorem dX3_showsParts_67 : decode cX3_showsParts 67 = .ok (.goto 5, 3) := by decide +kernel
theorem dX3_showsParts_70 : decode cX3_showsParts 70 = .ok (.lload 7, 2) := by decide +kernel
theorem dX3_showsParts_72 : decode cX3_showsParts 72 = .ok (.lstore 4, 2) := by decide +kernel
theorem dX3_showsParts_74 : decode cX3_showsParts 74 = .ok (.iinc 6 (-1), 3) := by decide +kernel
theorem dX3_showsParts_77 : decode cX3_showsParts 77 = .ok (.goto (-70), 3) := by decide +kernel
theorem dX3_showsParts_80 : decode cX3_showsParts 80 = .ok (.lload 4, 2) := by decide +kernel
theorem dX3_showsParts_82 : decode cX3_showsParts 82 = .ok (.lconst 1, 1) := by decide +kernel
theorem dX3_showsParts_83 : decode cX3_showsParts 83 = .ok (.lcmp, 1) := by decide +kernel
theorem dX3_showsParts_84 : decode cX3_showsParts 84 = .ok (.ifCond .eq 7, 3) := by decide +kernel
theorem dX3_showsParts_87 : decode cX3_showsParts 87 = .ok (.iconst 1, 1) := by decide +kernel
theorem dX3_showsParts_88 : decode cX3_showsParts 88 = .ok (.goto 4, 3) := by decide +kernel
theorem dX3_showsParts_91 : decode cX3_showsParts 91 = .ok (.iconst 0, 1) := by decide +kernel
theorem dX3_showsParts_92 : decode cX3_showsParts 92 = .ok (.ireturn, 1) := by decide +kernel
theorem dX3_product_0 : decode cX3_product 0 = .ok (.lload 4, 2) := by decide +kernel
theorem dX3_product_2 : decode cX3_product 2 = .ok (.ldc2_w 34, 3) := by decide +kernel
theorem dX3_product_5 : decode cX3_product 5 = .ok (.lcmp, 1) := by decide +kernel
theorem dX3_product_6 : decode cX3_product 6 = .ok (.ifCond .ge 5, 3) := by decide +kernel
theorem dX3_product_9 : decode cX3_product 9 = .ok (.lconst 0, 1) := by decide +kernel
theorem dX3_product_10 : decode cX3_product 10 = .ok (.lreturn, 1) := by decide +kernel
theorem dX3_product_11 : decode cX3_product 11 = .ok (.lload_n 0, 1) := by decide +kernel
theorem dX3_product_12 : decode cX3_product 12 = .ok (.lload_n 2, 1) := by decide +kernel
theorem dX3_product_13 : decode cX3_product 13 = .ok (.bipush 20, 2) := by decide +kernel
theorem dX3_product_15 : decode cX3_product 15 = .ok (.lshr, 1) := by decide +kernel
theorem dX3_product_16 : decode cX3_product 16 = .ok (.lmul, 1) := by decide +kernel
theorem dX3_product_17 : decode cX3_product 17 = .ok (.lload 4, 2) := by decide +kernel
theorem dX3_product_19 : decode cX3_product 19 = .ok (.lrem, 1) := by decide +kernel
theorem dX3_product_20 : decode cX3_product 20 = .ok (.lstore 6, 2) := by decide +kernel
theorem dX3_product_22 : decode cX3_product 22 = .ok (.lload 6, 2) := by decide +kernel
theorem dX3_product_24 : decode cX3_product 24 = .ok (.bipush 20, 2) := by decide +kernel
theorem dX3_product_26 : decode cX3_product 26 = .ok (.lshl, 1) := by decide +kernel
theorem dX3_product_27 : decode cX3_product 27 = .ok (.lload_n 0, 1) := by decide +kernel
theorem dX3_product_28 : decode cX3_product 28 = .ok (.lload_n 2, 1) := by decide +kernel
theorem dX3_product_29 : decode cX3_product 29 = .ok (.ldc2_w 75, 3) := by decide +kernel
theorem dX3_product_32 : decode cX3_product 32 = .ok (.land, 1) := by decide +kernel
theorem dX3_product_33 : decode cX3_product 33 = .ok (.lmul, 1) := by decide +kernel
theorem dX3_product_34 : decode cX3_product 34 = .ok (.ladd, 1) := by decide +kernel
theorem dX3_product_35 : decode cX3_product 35 = .ok (.lload 4, 2) := by decide +kernel
theorem dX3_product_37 : decode cX3_product 37 = .ok (.lrem, 1) := by decide +kernel
theorem dX3_product_38 : decode cX3_product 38 = .ok (.lreturn, 1) := by decide +kernel
theorem dX4_init_0 : decode cX4_init 0 = .ok (.aload_n 0, 1) := by decide +kernel
theorem dX4_init_1 : decode cX4_init 1 = .ok (.invokespecial 3, 3) := by decide +kernel
theorem dX4_init_4 : decode cX4_init 4 = .ok (.aload_n 0, 1) := by decide +kernel
theorem dX4_init_5 : decode cX4_init 5 = .ok (.bipush 50, 2) := by decide +kernel
theorem dX4_init_7 : decode cX4_init 7 = .ok (.newarray .int, 2) := by decide +kernel
theorem dX4_init_9 : decode cX4_init 9 = .ok (.putfield 11, 3) := by decide +kernel
theorem dX4_init_12 : decode cX4_init 12 = .ok (.aload_n 0, 1) := by decide +kernel
theorem dX4_init_13 : decode cX4_init 13 = .ok (.bipush 24, 2) := by decide +kernel
theorem dX4_init_15 : decode cX4_init 15 = .ok (.newarray .int, 2) := by decide +kernel
theorem dX4_init_17 : decode cX4_init 17 = .ok (.putfield 15, 3) := by decide +kernel
theorem dX4_init_20 : decode cX4_init 20 = .ok (.return_, 1) := by decide +kernel
theorem dX4_size_0 : decode cX4_size 0 = .ok (.aload_n 0, 1) := by decide +kernel
theorem dX4_size_1 : decode cX4_size 1 = .ok (.getfield 18, 3) := by decide +kernel
theorem dX4_size_4 : decode cX4_size 4 = .ok (.ireturn, 1) := by decide +kernel
theorem dX4_ran_0 : decode cX4_ran 0 = .ok (.aload_n 0, 1) := by decide +kernel
theorem dX4_ran_1 : decode cX4_ran 1 = .ok (.getfield 22, 3) := by decide +kernel
theorem dX4_ran_4 : decode cX4_ran 4 = .ok (.ireturn, 1) := by decide +kernel
theorem dX4_traced_0 : decode cX4_traced 0 = .ok (.iload_n 1, 1) := by decide +kernel
theorem dX4_traced_1 : decode cX4_traced 1 = .ok (.ifCond .lt 26, 3) := by decide +kernel
theorem dX4_traced_4 : decode cX4_traced 4 = .ok (.iload_n 1, 1) := by decide +kernel
theorem dX4_traced_5 : decode cX4_traced 5 = .ok (.bipush 24, 2) := by decide +kernel
theorem dX4_traced_7 : decode cX4_traced 7 = .ok (.if_icmp .ge 20, 3) := by decide +kernel
theorem dX4_traced_10 : decode cX4_traced 10 = .ok (.iload_n 1, 1) := by decide +kernel
theorem dX4_traced_11 : decode cX4_traced 11 = .ok (.aload_n 0, 1) := by decide +kernel
theorem dX4_traced_12 : decode cX4_traced 12 = .ok (.getfield 22, 3) := by decide +kernel
theorem dX4_traced_15 : decode cX4_traced 15 = .ok (.if_icmp .ge 12, 3) := by decide +kernel
theorem dX4_traced_18 : decode cX4_traced 18 = .ok (.aload_n 0, 1) := by decide +kernel
theorem dX4_traced_19 : decode cX4_traced 19 = .ok (.getfield 15, 3) := by decide +kernel
theorem dX4_traced_22 : decode cX4_traced 22 = .ok (.iload_n 1, 1) := by decide +kernel
theorem dX4_traced_23 : decode cX4_traced 23 = .ok (.iaload, 1) := by decide +kernel
theorem dX4_traced_24 : decode cX4_traced 24 = .ok (.goto 4, 3) := by decide +kernel
theorem dX4_traced_27 : decode cX4_traced 27 = .ok (.iconst (-1), 1) := by decide +kernel
theorem dX4_traced_28 : decode cX4_traced 28 = .ok (.ireturn, 1) := by decide +kernel
theorem dX4_add_0 : decode cX4_add 0 = .ok (.aload_n 0, 1) := by decide +kernel
theorem dX4_add_1 : decode cX4_add 1 = .ok (.getfield 18, 3) := by decide +kernel
theorem dX4_add_4 : decode cX4_add 4 = .ok (.bipush 50, 2) := by decide +kernel
theorem dX4_add_6 : decode cX4_add 6 = .ok (.if_icmp .ne 6, 3) := by decide +kernel
theorem dX4_add_9 : decode cX4_add 9 = .ok (.bipush (-3), 2) := by decide +kernel
theorem dX4_add_11 : decode cX4_add 11 = .ok (.ireturn, 1) := by decide +kernel
theorem dX4_add_12 : decode cX4_add 12 = .ok (.aload_n 0, 1) := by decide +kernel
theorem dX4_add_13 : decode cX4_add 13 = .ok (.getfield 11, 3) := by decide +kernel
theorem dX4_add_16 : decode cX4_add 16 = .ok (.aload_n 0, 1) := by decide +kernel
theorem dX4_add_17 : decode cX4_add 17 = .ok (.getfield 18, 3) := by decide +kernel
theorem dX4_add_20 : decode cX4_add 20 = .ok (.iload_n 1, 1) := by decide +kernel
theorem dX4_add_21 : decode cX4_add 21 = .ok (.iastore, 1) := by decide +kernel
theorem dX4_add_22 : decode cX4_add 22 = .ok (.aload_n 0, 1) := by decide +kernel
theorem dX4_add_23 : decode cX4_add 23 = .ok (.dup, 1) := by decide +kernel
theorem dX4_add_24 : decode cX4_add 24 = .ok (.getfield 18, 3) := by decide +kernel
theorem dX4_add_27 : decode cX4_add 27 = .ok (.iconst 1, 1) := by decide +kernel
theorem dX4_add_28 : decode cX4_add 28 = .ok (.iadd, 1) := by decide +kernel
theorem dX4_add_29 : decode cX4_add 29 = .ok (.putfield 18, 3) := by decide +kernel
theorem dX4_add_32 : decode cX4_add 32 = .ok (.aload_n 0, 1) := by decide +kernel
theorem dX4_add_33 : decode cX4_add 33 = .ok (.getfield 18, 3) := by decide +kernel
theorem dX4_add_36 : decode cX4_add 36 = .ok (.iconst 1, 1) := by decide +kernel
theorem dX4_add_37 : decode cX4_add 37 = .ok (.isub, 1) := by decide +kernel
theorem dX4_add_38 : decode cX4_add 38 = .ok (.ireturn, 1) := by decide +kernel
theorem dX4_kindOf_0 : decode cX4_kindOf 0 = .ok (.aload_n 0, 1) := by decide +kernel
theorem dX4_kindOf_1 : decode cX4_kindOf 1 = .ok (.getfield 11, 3) := by decide +kernel
theorem dX4_kindOf_4 : decode cX4_kindOf 4 = .ok (.iload_n 1, 1) := by decide +kernel
theorem dX4_kindOf_5 : decode cX4_kindOf 5 = .ok (.iaload, 1) := by decide +kernel
theorem dX4_kindOf_6 : decode cX4_kindOf 6 = .ok (.ireturn, 1) := by decide +kernel
theorem dX4_isUnder_0 : decode cX4_isUnder 0 = .ok (.iload_n 1, 1) := by decide +kernel
theorem dX4_isUnder_1 : decode cX4_isUnder 1 = .ok (.istore_n 3, 1) := by decide +kernel
theorem dX4_isUnder_2 : decode cX4_isUnder 2 = .ok (.iconst 0, 1) := by decide +kernel
theorem dX4_isUnder_3 : decode cX4_isUnder 3 = .ok (.istore 4, 2) := by decide +kernel
theorem dX4_isUnder_5 : decode cX4_isUnder 5 = .ok (.iload 4, 2) := by decide +kernel
theorem dX4_isUnder_7 : decode cX4_isUnder 7 = .ok (.bipush 8, 2) := by decide +kernel
theorem dX4_isUnder_9 : decode cX4_isUnder 9 = .ok (.if_icmp .ge 26, 3) := by decide +kernel
theorem dX4_isUnder_12 : decode cX4_isUnder 12 = .ok (.iload_n 3, 1) := by decide +kernel
theorem dX4_isUnder_13 : decode cX4_isUnder 13 = .ok (.ifCond .lt 22, 3) := by decide +kernel
theorem dX4_isUnder_16 : decode cX4_isUnder 16 = .ok (.iload_n 3, 1) := by decide +kernel
theorem dX4_isUnder_17 : decode cX4_isUnder 17 = .ok (.iload_n 2, 1) := by decide +kernel
theorem dX4_isUnder_18 : decode cX4_isUnder 18 = .ok (.if_icmp .ne 5, 3) := by decide +kernel
theorem dX4_isUnder_21 : decode cX4_isUnder 21 = .ok (.iconst 1, 1) := by decide +kernel
theorem dX4_isUnder_22 : decode cX4_isUnder 22 = .ok (.ireturn, 1) := by decide +kernel
theorem dX4_isUnder_23 : decode cX4_isUnder 23 = .ok (.getstatic 25, 3) := by decide +kernel
theorem dX4_isUnder_26 : decode cX4_isUnder 26 = .ok (.iload_n 3, 1) := by decide +kernel
theorem dX4_isUnder_27 : decode cX4_isUnder 27 = .ok (.iaload, 1) := by decide +kernel
theorem dX4_isUnder_28 : decode cX4_isUnder 28 = .ok (.istore_n 3, 1) := by decide +kernel
theorem dX4_isUnder_29 : decode cX4_isUnder 29 = .ok (.iinc 4 1, 3) := by decide +kernel
theorem dX4_isUnder_32 : decode cX4_isUnder 32 = .ok (.goto (-27), 3) := by decide +kernel
theorem dX4_isUnder_35 : decode cX4_isUnder 35 = .ok (.iconst 0, 1) := by decide +kernel
theorem dX4_isUnder_36 : decode cX4_isUnder 36 = .ok (.ireturn, 1) := by decide +kernel
theorem dX4_perform_0 : decode cX4_perform 0 = .ok (.aload_n 0, 1) := by decide +kernel
theorem dX4_perform_1 : decode cX4_perform 1 = .ok (.iconst 0, 1) := by decide +kernel
theorem dX4_perform_2 : decode cX4_perform 2 = .ok (.putfield 22, 3) := by decide +kernel
theorem dX4_perform_5 : decode cX4_perform 5 = .ok (.iload_n 1, 1) := by decide +kernel
theorem dX4_perform_6 : decode cX4_perform 6 = .ok (.iconst 0, 1) := by decide +kernel
theorem dX4_perform_7 : decode cX4_perform 7 = .ok (.aload_n 0, 1) := by decide +kernel
theorem dX4_perform_8 : decode cX4_perform 8 = .ok (.getfield 18, 3) := by decide +kernel
theorem dX4_perform_11 : decode cX4_perform 11 = .ok (.iconst 1, 1) := by decide +kernel
theorem dX4_perform_12 : decode cX4_perform 12 = .ok (.isub, 1) := by decide +kernel
theorem dX4_perform_13 : decode cX4_perform 13 = .ok (.invokestatic 28, 3) := by decide +kernel
theorem dX4_perform_16 : decode cX4_perform 16 = .ok (.ifCond .eq 12, 3) := by decide +kernel
theorem dX4_perform_19 : decode cX4_perform 19 = .ok (.iload_n 2, 1) := by decide +kernel
theorem dX4_perform_20 : decode cX4_perform 20 = .ok (.iconst 0, 1) := by decide +kernel
theorem dX4_perform_21 : decode cX4_perform 21 = .ok (.iconst 3, 1) := by decide +kernel
theorem dX4_perform_22 : decode cX4_perform 22 = .ok (.invokestatic 28, 3) := by decide +kernel
theorem dX4_perform_25 : decode cX4_perform 25 = .ok (.ifCond .ne 5, 3) := by decide +kernel
theorem dX4_perform_28 : decode cX4_perform 28 = .ok (.iconst 0, 1) := by decide +kernel
theorem dX4_perform_29 : decode cX4_perform 29 = .ok (.ireturn, 1) := by decide +kernel
theorem dX4_perform_30 : decode cX4_perform 30 = .ok (.aload_n 0, 1) := by decide +kernel
theorem dX4_perform_31 : decode cX4_perform 31 = .ok (.iload_n 1, 1) := by decide +kernel
theorem dX4_perform_32 : decode cX4_perform 32 = .ok (.putfield 32, 3) := by decide +kernel
theorem dX4_perform_35 : decode cX4_perform 35 = .ok (.aload_n 0, 1) := by decide +kernel
theorem dX4_perform_36 : decode cX4_perform 36 = .ok (.iload_n 2, 1) := by decide +kernel
theorem dX4_perform_37 : decode cX4_perform 37 = .ok (.aload_n 0, 1) := by decide +kernel
theorem dX4_perform_38 : decode cX4_perform 38 = .ok (.getfield 11, 3) := by decide +kernel
theorem dX4_perform_41 : decode cX4_perform 41 = .ok (.iload_n 1, 1) := by decide +kernel
theorem dX4_perform_42 : decode cX4_perform 42 = .ok (.iaload, 1) := by decide +kernel
theorem dX4_perform_43 : decode cX4_perform 43 = .ok (.iload_n 3, 1) := by decide +kernel
theorem dX4_perform_44 : decode cX4_perform 44 = .ok (.iconst 0, 1) := by decide +kernel
theorem dX4_perform_45 : decode cX4_perform 45 = .ok (.invokevirtual 35, 3) := by decide +kernel
theorem dX4_perform_48 : decode cX4_perform 48 = .ok (.ireturn, 1) := by decide +kernel
theorem dX4_run_0 : decode cX4_run 0 = .ok (.iload 4, 2) := by decide +kernel
theorem dX4_run_2 : decode cX4_run 2 = .ok (.bipush 20, 2) := by decide +kernel
theorem dX4_run_4 : decode cX4_run 4 = .ok (.if_icmp .le 5, 3) := by decide +kernel
theorem dX4_run_7 : decode cX4_run 7 = .ok (.iconst 0, 1) := by decide +kernel
theorem dX4_run_8 : decode cX4_run 8 = .ok (.ireturn, 1) := by decide +kernel
theorem dX4_run_9 : decode cX4_run 9 = .ok (.iload_n 1, 1) := by decide +kernel
theorem dX4_run_10 : decode cX4_run 10 = .ok (.iload_n 2, 1) := by decide +kernel
theorem dX4_run_11 : decode cX4_run 11 = .ok (.invokestatic 39, 3) := by decide +kernel
theorem dX4_run_14 : decode cX4_run 14 = .ok (.istore 5, 2) := by decide +kernel
theorem dX4_run_16 : decode cX4_run 16 = .ok (.aload_n 0, 1) := by decide +kernel
theorem dX4_run_17 : decode cX4_run 17 = .ok (.getfield 11, 3) := by decide +kernel
theorem dX4_run_20 : decode cX4_run 20 = .ok (.aload_n 0, 1) := by decide +kernel
theorem dX4_run_21 : decode cX4_run 21 = .ok (.getfield 32, 3) := by decide +kernel
theorem dX4_run_24 : decode cX4_run 24 = .ok (.iaload, 1) := by decide +kernel
theorem dX4_run_25 : decode cX4_run 25 = .ok (.istore 6, 2) := by decide +kernel
theorem dX4_run_27 : decode cX4_run 27 = .ok (.getstatic 25, 3) := by decide +kernel
theorem dX4_run_30 : decode cX4_run 30 = .ok (.iload 5, 2) := by decide +kernel
theorem dX4_run_32 : decode cX4_run 32 = .ok (.iaload, 1) := by decide +kernel
theorem dX4_run_33 : decode cX4_run 33 = .ok (.istore 7, 2) := by decide +kernel
theorem dX4_run_35 : decode cX4_run 35 = .ok (.iload 4, 2) := by decide +kernel
theorem dX4_run_37 : decode cX4_run 37 = .ok (.iconst 1, 1) := by decide +kernel
theorem dX4_run_38 : decode cX4_run 38 = .ok (.iadd, 1) := by decide +kernel
theorem dX4_run_39 : decode cX4_run 39 = .ok (.istore 8, 2) := by decide +kernel
theorem dX4_run_41 : decode cX4_run 41 = .ok (.getstatic 43, 3) := by decide +kernel
theorem dX4_run_44 : decode cX4_run 44 = .ok (.iload 5, 2) := by decide +kernel
theorem dX4_run_46 : decode cX4_run 46 = .ok (.iconst 4, 1) := by decide +kernel
theorem dX4_run_47 : decode cX4_run 47 = .ok (.imul, 1) := by decide +kernel
theorem dX4_run_48 : decode cX4_run 48 = .ok (.iload_n 1, 1) := by decide +kernel
theorem dX4_run_49 : decode cX4_run 49 = .ok (.iadd, 1) := by decide +kernel
theorem dX4_run_50 : decode cX4_run 50 = .ok (.iaload, 1) := by decide +kernel
theorem dX4_run_51 : decode cX4_run 51 = .ok (.istore 9, 2) := by decide +kernel
theorem dX4_run_53 : decode cX4_run 53 = .ok (.aload_n 0, 1) := by decide +kernel
theorem dX4_run_54 : decode cX4_run 54 = .ok (.iload 9, 2) := by decide +kernel
theorem dX4_run_56 : decode cX4_run 56 = .ok (.invokevirtual 46, 3) := by decide +kernel
theorem dX4_run_59 : decode cX4_run 59 = .ok (.iload 9, 2) := by decide +kernel
theorem dX4_run_61 : decode cX4_run 61 = .ok (.lookupswitch 298 #[(1, 115), (2, 122), (10, 144), (11, 157), (20, 164), (30, 177), (40, 189), (41, 202), (50, 215), (60, 237), (70, 250), (80, 263), (81, 285)], 115) := by decide +kernel
theorem dX4_run_176 : decode cX4_run 176 = .ok (.iload_n 3, 1) := by decide +kernel
theorem dX4_run_177 : decode cX4_run 177 = .ok (.aload_n 0, 1) := by decide +kernel
theorem dX4_run_178 : decode cX4_run 178 = .ok (.getfield 32, 3) := by decide +kernel
theorem dX4_run_181 : decode cX4_run 181 = .ok (.iadd, 1) := by decide +kernel
theorem dX4_run_182 : decode cX4_run 182 = .ok (.ireturn, 1) := by decide +kernel
theorem dX4_run_183 : decode cX4_run 183 = .ok (.aload_n 0, 1) := by decide +kernel
theorem dX4_run_184 : decode cX4_run 184 = .ok (.iconst 1, 1) := by decide +kernel
theorem dX4_run_185 : decode cX4_run 185 = .ok (.iload 6, 2) := by decide +kernel
theorem dX4_run_187 : decode cX4_run 187 = .ok (.iload_n 3, 1) := by decide +kernel
theorem dX4_run_188 : decode cX4_run 188 = .ok (.iload 8, 2) := by decide +kernel
theorem dX4_run_190 : decode cX4_run 190 = .ok (.invokevirtual 35, 3) := by decide +kernel
theorem dX4_run_193 : decode cX4_run 193 = .ok (.aload_n 0, 1) := by decide +kernel
theorem dX4_run_194 : decode cX4_run 194 = .ok (.iconst 2, 1) := by decide +kernel
theorem dX4_run_195 : decode cX4_run 195 = .ok (.iload 6, 2) := by decide +kernel
theorem dX4_run_197 : decode cX4_run 197 = .ok (.iconst 1, 1) := by decide +kernel
theorem dX4_run_198 : decode cX4_run 198 = .ok (.iload 8, 2) := by decide +kernel
theorem dX4_run_200 : decode cX4_run 200 = .ok (.invokevirtual 35, 3) := by decide +kernel
theorem dX4_run_203 : decode cX4_run 203 = .ok (.isub, 1) := by decide +kernel
theorem dX4_run_204 : decode cX4_run 204 = .ok (.ireturn, 1) := by decide +kernel
theorem dX4_run_205 : decode cX4_run 205 = .ok (.aload_n 0, 1) := by decide +kernel
theorem dX4_run_206 : decode cX4_run 206 = .ok (.iconst 0, 1) := by decide +kernel
theorem dX4_run_207 : decode cX4_run 207 = .ok (.iload 6, 2) := by decide +kernel
theorem dX4_run_209 : decode cX4_run 209 = .ok (.iload_n 3, 1) := by decide +kernel
theorem dX4_run_210 : decode cX4_run 210 = .ok (.iload 8, 2) := by decide +kernel
theorem dX4_run_212 : decode cX4_run 212 = .ok (.invokevirtual 35, 3) := by decide +kernel
theorem dX4_run_215 : decode cX4_run 215 = .ok (.iconst 2, 1) := by decide +kernel
theorem dX4_run_216 : decode cX4_run 216 = .ok (.imul, 1) := by decide +kernel
theorem dX4_run_217 : decode cX4_run 217 = .ok (.ireturn, 1) := by decide +kernel
theorem dX4_run_218 : decode cX4_run 218 = .ok (.iload_n 3, 1) := by decide +kernel
theorem dX4_run_219 : decode cX4_run 219 = .ok (.aload_n 0, 1) := by decide +kernel
theorem dX4_run_220 : decode cX4_run 220 = .ok (.getfield 32, 3) := by decide +kernel
theorem dX4_run_223 : decode cX4_run 223 = .ok (.ixor, 1) := by decide +kernel
theorem dX4_run_224 : decode cX4_run 224 = .ok (.ireturn, 1) := by decide +kernel
theorem dX4_run_225 : decode cX4_run 225 = .ok (.aload_n 0, 1) := by decide +kernel
theorem dX4_run_226 : decode cX4_run 226 = .ok (.iconst 0, 1) := by decide +kernel
theorem dX4_run_227 : decode cX4_run 227 = .ok (.iload 7, 2) := by decide +kernel
theorem dX4_run_229 : decode cX4_run 229 = .ok (.iload_n 3, 1) := by decide +kernel
theorem dX4_run_230 : decode cX4_run 230 = .ok (.iload 8, 2) := by decide +kernel
theorem dX4_run_232 : decode cX4_run 232 = .ok (.invokevirtual 35, 3) := by decide +kernel
theorem dX4_run_235 : decode cX4_run 235 = .ok (.iconst 3, 1) := by decide +kernel
theorem dX4_run_236 : decode cX4_run 236 = .ok (.iadd, 1) := by decide +kernel
theorem dX4_run_237 : decode cX4_run 237 = .ok (.ireturn, 1) := by decide +kernel
theorem dX4_run_238 : decode cX4_run 238 = .ok (.aload_n 0, 1) := by decide +kernel
theorem dX4_run_239 : decode cX4_run 239 = .ok (.iconst 1, 1) := by decide +kernel
theorem dX4_run_240 : decode cX4_run 240 = .ok (.iload 7, 2) := by decide +kernel
theorem dX4_run_242 : decode cX4_run 242 = .ok (.iload_n 3, 1) := by decide +kernel
theorem dX4_run_243 : decode cX4_run 243 = .ok (.iload 8, 2) := by decide +kernel
theorem dX4_run_245 : decode cX4_run 245 = .ok (.invokevirtual 35, 3) := by decide +kernel
theorem dX4_run_248 : decode cX4_run 248 = .ok (.ineg, 1) := by decide +kernel
theorem dX4_run_249 : decode cX4_run 249 = .ok (.ireturn, 1) := by decide +kernel
theorem dX4_run_250 : decode cX4_run 250 = .ok (.aload_n 0, 1) := by decide +kernel
theorem dX4_run_251 : decode cX4_run 251 = .ok (.iconst 2, 1) := by decide +kernel
theorem dX4_run_252 : decode cX4_run 252 = .ok (.iload 7, 2) := by decide +kernel
theorem dX4_run_254 : decode cX4_run 254 = .ok (.iload_n 3, 1) := by decide +kernel
theorem dX4_run_255 : decode cX4_run 255 = .ok (.iload 8, 2) := by decide +kernel
theorem dX4_run_257 : decode cX4_run 257 = .ok (.invokevirtual 35, 3) := by decide +kernel
theorem dX4_run_260 : decode cX4_run 260 = .ok (.iconst 3, 1) := by decide +kernel
theorem dX4_run_261 : decode cX4_run 261 = .ok (.imul, 1) := by decide +kernel
theorem dX4_run_262 : decode cX4_run 262 = .ok (.ireturn, 1) := by decide +kernel
theorem dX4_run_263 : decode cX4_run 263 = .ok (.aload_n 0, 1) := by decide +kernel
theorem dX4_run_264 : decode cX4_run 264 = .ok (.iconst 1, 1) := by decide +kernel
theorem dX4_run_265 : decode cX4_run 265 = .ok (.iload 7, 2) := by decide +kernel
theorem dX4_run_267 : decode cX4_run 267 = .ok (.iload_n 3, 1) := by decide +kernel
theorem dX4_run_268 : decode cX4_run 268 = .ok (.iconst 1, 1) := by decide +kernel
theorem dX4_run_269 : decode cX4_run 269 = .ok (.iadd, 1) := by decide +kernel
theorem dX4_run_270 : decode cX4_run 270 = .ok (.iload 8, 2) := by decide +kernel
theorem dX4_run_272 : decode cX4_run 272 = .ok (.invokevirtual 35, 3) := by decide +kernel
theorem dX4_run_275 : decode cX4_run 275 = .ok (.ireturn, 1) := by decide +kernel
theorem dX4_run_276 : decode cX4_run 276 = .ok (.aload_n 0, 1) := by decide +kernel
theorem dX4_run_277 : decode cX4_run 277 = .ok (.iconst 2, 1) := by decide +kernel
theorem dX4_run_278 : decode cX4_run 278 = .ok (.iload 7, 2) := by decide +kernel
theorem dX4_run_280 : decode cX4_run 280 = .ok (.iload_n 3, 1) := by decide +kernel
theorem dX4_run_281 : decode cX4_run 281 = .ok (.iload 8, 2) := by decide +kernel
theorem dX4_run_283 : decode cX4_run 283 = .ok (.invokevirtual 35, 3) := by decide +kernel
theorem dX4_run_286 : decode cX4_run 286 = .ok (.aload_n 0, 1) := by decide +kernel
theorem dX4_run_287 : decode cX4_run 287 = .ok (.iconst 0, 1) := by decide +kernel
theorem dX4_run_288 : decode cX4_run 288 = .ok (.iload 6, 2) := by decide +kernel
theorem dX4_run_290 : decode cX4_run 290 = .ok (.iconst 2, 1) := by decide +kernel
theorem dX4_run_291 : decode cX4_run 291 = .ok (.iload 8, 2) := by decide +kernel
theorem dX4_run_293 : decode cX4_run 293 = .ok (.invokevirtual 35, 3) := by decide +kernel
theorem dX4_run_296 : decode cX4_run 296 = .ok (.isub, 1) := by decide +kernel
theorem dX4_run_297 : decode cX4_run 297 = .ok (.ireturn, 1) := by decide +kernel
theorem dX4_run_298 : decode cX4_run 298 = .ok (.aload_n 0, 1) := by decide +kernel
theorem dX4_run_299 : decode cX4_run 299 = .ok (.iconst 0, 1) := by decide +kernel
theorem dX4_run_300 : decode cX4_run 300 = .ok (.iload 7, 2) := by decide +kernel
theorem dX4_run_302 : decode cX4_run 302 = .ok (.iload_n 3, 1) := by decide +kernel
theorem dX4_run_303 : decode cX4_run 303 = .ok (.iload 8, 2) := by decide +kernel
theorem dX4_run_305 : decode cX4_run 305 = .ok (.invokevirtual 35, 3) := by decide +kernel
theorem dX4_run_308 : decode cX4_run 308 = .ok (.iconst 2, 1) := by decide +kernel
theorem dX4_run_309 : decode cX4_run 309 = .ok (.imul, 1) := by decide +kernel
theorem dX4_run_310 : decode cX4_run 310 = .ok (.ireturn, 1) := by decide +kernel
theorem dX4_run_311 : decode cX4_run 311 = .ok (.aload_n 0, 1) := by decide +kernel
theorem dX4_run_312 : decode cX4_run 312 = .ok (.iconst 3, 1) := by decide +kernel
