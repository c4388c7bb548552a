theorem dX9_divide_34 : decode cX9_divide 34 = .ok (.aload_n 0, 1) := by decide +kernel
theorem dX9_divide_35 : decode cX9_divide 35 = .ok (.getfield 26, 3) := by decide +kernel
theorem dX9_divide_38 : decode cX9_divide 38 = .ok (.ireturn, 1) := by decide +kernel
theorem dX9_share_0 : decode cX9_share 0 = .ok (.aload_n 0, 1) := by decide +kernel
theorem dX9_share_1 : decode cX9_share 1 = .ok (.getfield 15, 3) := by decide +kernel
theorem dX9_share_4 : decode cX9_share 4 = .ok (.iload_n 1, 1) := by decide +kernel
theorem dX9_share_5 : decode cX9_share 5 = .ok (.iaload, 1) := by decide +kernel
theorem dX9_share_6 : decode cX9_share 6 = .ok (.ireturn, 1) := by decide +kernel
theorem dX9_tryShare_0 : decode cX9_tryShare 0 = .ok (.iload_n 1, 1) := by decide +kernel
theorem dX9_tryShare_1 : decode cX9_tryShare 1 = .ok (.aload_n 0, 1) := by decide +kernel
theorem dX9_tryShare_2 : decode cX9_tryShare 2 = .ok (.getfield 22, 3) := by decide +kernel
theorem dX9_tryShare_5 : decode cX9_tryShare 5 = .ok (.iconst 1, 1) := by decide +kernel
theorem dX9_tryShare_6 : decode cX9_tryShare 6 = .ok (.isub, 1) := by decide +kernel
theorem dX9_tryShare_7 : decode cX9_tryShare 7 = .ok (.if_icmp .ne 9, 3) := by decide +kernel
theorem dX9_tryShare_10 : decode cX9_tryShare 10 = .ok (.aload_n 0, 1) := by decide +kernel
theorem dX9_tryShare_11 : decode cX9_tryShare 11 = .ok (.iload_n 3, 1) := by decide +kernel
theorem dX9_tryShare_12 : decode cX9_tryShare 12 = .ok (.invokevirtual 33, 3) := by decide +kernel
theorem dX9_tryShare_15 : decode cX9_tryShare 15 = .ok (.return_, 1) := by decide +kernel
theorem dX9_tryShare_16 : decode cX9_tryShare 16 = .ok (.iload_n 2, 1) := by decide +kernel
theorem dX9_tryShare_17 : decode cX9_tryShare 17 = .ok (.istore 4, 2) := by decide +kernel
theorem dX9_tryShare_19 : decode cX9_tryShare 19 = .ok (.iload 4, 2) := by decide +kernel
theorem dX9_tryShare_21 : decode cX9_tryShare 21 = .ok (.aload_n 0, 1) := by decide +kernel
theorem dX9_tryShare_22 : decode cX9_tryShare 22 = .ok (.getfield 22, 3) := by decide +kernel
theorem dX9_tryShare_25 : decode cX9_tryShare 25 = .ok (.iload_n 1, 1) := by decide +kernel
theorem dX9_tryShare_26 : decode cX9_tryShare 26 = .ok (.isub, 1) := by decide +kernel
theorem dX9_tryShare_27 : decode cX9_tryShare 27 = .ok (.imul, 1) := by decide +kernel
theorem dX9_tryShare_28 : decode cX9_tryShare 28 = .ok (.iload_n 3, 1) := by decide +kernel
theorem dX9_tryShare_29 : decode cX9_tryShare 29 = .ok (.if_icmp .gt 54, 3) := by decide +kernel
theorem dX9_tryShare_32 : decode cX9_tryShare 32 = .ok (.aload_n 0, 1) := by decide +kernel
theorem dX9_tryShare_33 : decode cX9_tryShare 33 = .ok (.iload_n 1, 1) := by decide +kernel
theorem dX9_tryShare_34 : decode cX9_tryShare 34 = .ok (.iload 4, 2) := by decide +kernel
theorem dX9_tryShare_36 : decode cX9_tryShare 36 = .ok (.iload_n 3, 1) := by decide +kernel
theorem dX9_tryShare_37 : decode cX9_tryShare 37 = .ok (.invokevirtual 37, 3) := by decide +kernel
theorem dX9_tryShare_40 : decode cX9_tryShare 40 = .ok (.ifCond .eq 43, 3) := by decide +kernel
theorem dX9_tryShare_43 : decode cX9_tryShare 43 = .ok (.aload_n 0, 1) := by decide +kernel
theorem dX9_tryShare_44 : decode cX9_tryShare 44 = .ok (.getfield 18, 3) := by decide +kernel
theorem dX9_tryShare_47 : decode cX9_tryShare 47 = .ok (.iload 4, 2) := by decide +kernel
theorem dX9_tryShare_49 : decode cX9_tryShare 49 = .ok (.i2l, 1) := by decide +kernel
theorem dX9_tryShare_50 : decode cX9_tryShare 50 = .ok (.invokevirtual 41, 3) := by decide +kernel
theorem dX9_tryShare_53 : decode cX9_tryShare 53 = .ok (.ifCond .eq 24, 3) := by decide +kernel
theorem dX9_tryShare_56 : decode cX9_tryShare 56 = .ok (.aload_n 0, 1) := by decide +kernel
theorem dX9_tryShare_57 : decode cX9_tryShare 57 = .ok (.getfield 11, 3) := by decide +kernel
theorem dX9_tryShare_60 : decode cX9_tryShare 60 = .ok (.iload_n 1, 1) := by decide +kernel
theorem dX9_tryShare_61 : decode cX9_tryShare 61 = .ok (.iload 4, 2) := by decide +kernel
theorem dX9_tryShare_63 : decode cX9_tryShare 63 = .ok (.iastore, 1) := by decide +kernel
theorem dX9_tryShare_64 : decode cX9_tryShare 64 = .ok (.aload_n 0, 1) := by decide +kernel
theorem dX9_tryShare_65 : decode cX9_tryShare 65 = .ok (.iload_n 1, 1) := by decide +kernel
theorem dX9_tryShare_66 : decode cX9_tryShare 66 = .ok (.iconst 1, 1) := by decide +kernel
theorem dX9_tryShare_67 : decode cX9_tryShare 67 = .ok (.iadd, 1) := by decide +kernel
theorem dX9_tryShare_68 : decode cX9_tryShare 68 = .ok (.iload 4, 2) := by decide +kernel
theorem dX9_tryShare_70 : decode cX9_tryShare 70 = .ok (.iload_n 3, 1) := by decide +kernel
theorem dX9_tryShare_71 : decode cX9_tryShare 71 = .ok (.iload 4, 2) := by decide +kernel
theorem dX9_tryShare_73 : decode cX9_tryShare 73 = .ok (.isub, 1) := by decide +kernel
theorem dX9_tryShare_74 : decode cX9_tryShare 74 = .ok (.invokevirtual 29, 3) := by decide +kernel
theorem dX9_tryShare_77 : decode cX9_tryShare 77 = .ok (.iinc 4 1, 3) := by decide +kernel
theorem dX9_tryShare_80 : decode cX9_tryShare 80 = .ok (.goto (-61), 3) := by decide +kernel
theorem dX9_tryShare_83 : decode cX9_tryShare 83 = .ok (.return_, 1) := by decide +kernel
theorem dX9_isNearer_0 : decode cX9_isNearer 0 = .ok (.iload_n 1, 1) := by decide +kernel
theorem dX9_isNearer_1 : decode cX9_isNearer 1 = .ok (.ifCond .eq 42, 3) := by decide +kernel
theorem dX9_isNearer_4 : decode cX9_isNearer 4 = .ok (.iload_n 2, 1) := by decide +kernel
theorem dX9_isNearer_5 : decode cX9_isNearer 5 = .ok (.aload_n 0, 1) := by decide +kernel
theorem dX9_isNearer_6 : decode cX9_isNearer 6 = .ok (.getfield 11, 3) := by decide +kernel
theorem dX9_isNearer_9 : decode cX9_isNearer 9 = .ok (.iconst 0, 1) := by decide +kernel
theorem dX9_isNearer_10 : decode cX9_isNearer 10 = .ok (.iaload, 1) := by decide +kernel
theorem dX9_isNearer_11 : decode cX9_isNearer 11 = .ok (.isub, 1) := by decide +kernel
theorem dX9_isNearer_12 : decode cX9_isNearer 12 = .ok (.aload_n 0, 1) := by decide +kernel
theorem dX9_isNearer_13 : decode cX9_isNearer 13 = .ok (.getfield 26, 3) := by decide +kernel
theorem dX9_isNearer_16 : decode cX9_isNearer 16 = .ok (.if_icmp .ge 31, 3) := by decide +kernel
theorem dX9_isNearer_19 : decode cX9_isNearer 19 = .ok (.iload_n 3, 1) := by decide +kernel
theorem dX9_isNearer_20 : decode cX9_isNearer 20 = .ok (.aload_n 0, 1) := by decide +kernel
theorem dX9_isNearer_21 : decode cX9_isNearer 21 = .ok (.getfield 22, 3) := by decide +kernel
theorem dX9_isNearer_24 : decode cX9_isNearer 24 = .ok (.iload_n 1, 1) := by decide +kernel
theorem dX9_isNearer_25 : decode cX9_isNearer 25 = .ok (.isub, 1) := by decide +kernel
theorem dX9_isNearer_26 : decode cX9_isNearer 26 = .ok (.aload_n 0, 1) := by decide +kernel
theorem dX9_isNearer_27 : decode cX9_isNearer 27 = .ok (.getfield 11, 3) := by decide +kernel
theorem dX9_isNearer_30 : decode cX9_isNearer 30 = .ok (.iconst 0, 1) := by decide +kernel
theorem dX9_isNearer_31 : decode cX9_isNearer 31 = .ok (.iaload, 1) := by decide +kernel
theorem dX9_isNearer_32 : decode cX9_isNearer 32 = .ok (.aload_n 0, 1) := by decide +kernel
theorem dX9_isNearer_33 : decode cX9_isNearer 33 = .ok (.getfield 26, 3) := by decide +kernel
theorem dX9_isNearer_36 : decode cX9_isNearer 36 = .ok (.iadd, 1) := by decide +kernel
theorem dX9_isNearer_37 : decode cX9_isNearer 37 = .ok (.iconst 1, 1) := by decide +kernel
theorem dX9_isNearer_38 : decode cX9_isNearer 38 = .ok (.isub, 1) := by decide +kernel
theorem dX9_isNearer_39 : decode cX9_isNearer 39 = .ok (.imul, 1) := by decide +kernel
theorem dX9_isNearer_40 : decode cX9_isNearer 40 = .ok (.if_icmp .gt 7, 3) := by decide +kernel
theorem dX9_isNearer_43 : decode cX9_isNearer 43 = .ok (.iconst 1, 1) := by decide +kernel
theorem dX9_isNearer_44 : decode cX9_isNearer 44 = .ok (.goto 4, 3) := by decide +kernel
theorem dX9_isNearer_47 : decode cX9_isNearer 47 = .ok (.iconst 0, 1) := by decide +kernel
theorem dX9_isNearer_48 : decode cX9_isNearer 48 = .ok (.ireturn, 1) := by decide +kernel
theorem dX9_tryLast_0 : decode cX9_tryLast 0 = .ok (.iload_n 1, 1) := by decide +kernel
theorem dX9_tryLast_1 : decode cX9_tryLast 1 = .ok (.aload_n 0, 1) := by decide +kernel
theorem dX9_tryLast_2 : decode cX9_tryLast 2 = .ok (.getfield 11, 3) := by decide +kernel
theorem dX9_tryLast_5 : decode cX9_tryLast 5 = .ok (.iconst 0, 1) := by decide +kernel
theorem dX9_tryLast_6 : decode cX9_tryLast 6 = .ok (.iaload, 1) := by decide +kernel
theorem dX9_tryLast_7 : decode cX9_tryLast 7 = .ok (.isub, 1) := by decide +kernel
theorem dX9_tryLast_8 : decode cX9_tryLast 8 = .ok (.aload_n 0, 1) := by decide +kernel
theorem dX9_tryLast_9 : decode cX9_tryLast 9 = .ok (.getfield 26, 3) := by decide +kernel
theorem dX9_tryLast_12 : decode cX9_tryLast 12 = .ok (.if_icmp .ge 56, 3) := by decide +kernel
theorem dX9_tryLast_15 : decode cX9_tryLast 15 = .ok (.aload_n 0, 1) := by decide +kernel
theorem dX9_tryLast_16 : decode cX9_tryLast 16 = .ok (.getfield 18, 3) := by decide +kernel
theorem dX9_tryLast_19 : decode cX9_tryLast 19 = .ok (.iload_n 1, 1) := by decide +kernel
theorem dX9_tryLast_20 : decode cX9_tryLast 20 = .ok (.i2l, 1) := by decide +kernel
theorem dX9_tryLast_21 : decode cX9_tryLast 21 = .ok (.invokevirtual 41, 3) := by decide +kernel
theorem dX9_tryLast_24 : decode cX9_tryLast 24 = .ok (.ifCond .eq 44, 3) := by decide +kernel
theorem dX9_tryLast_27 : decode cX9_tryLast 27 = .ok (.aload_n 0, 1) := by decide +kernel
theorem dX9_tryLast_28 : decode cX9_tryLast 28 = .ok (.getfield 11, 3) := by decide +kernel
theorem dX9_tryLast_31 : decode cX9_tryLast 31 = .ok (.aload_n 0, 1) := by decide +kernel
theorem dX9_tryLast_32 : decode cX9_tryLast 32 = .ok (.getfield 22, 3) := by decide +kernel
theorem dX9_tryLast_35 : decode cX9_tryLast 35 = .ok (.iconst 1, 1) := by decide +kernel
theorem dX9_tryLast_36 : decode cX9_tryLast 36 = .ok (.isub, 1) := by decide +kernel
theorem dX9_tryLast_37 : decode cX9_tryLast 37 = .ok (.iload_n 1, 1) := by decide +kernel
theorem dX9_tryLast_38 : decode cX9_tryLast 38 = .ok (.iastore, 1) := by decide +kernel
theorem dX9_tryLast_39 : decode cX9_tryLast 39 = .ok (.aload_n 0, 1) := by decide +kernel
theorem dX9_tryLast_40 : decode cX9_tryLast 40 = .ok (.iload_n 1, 1) := by decide +kernel
theorem dX9_tryLast_41 : decode cX9_tryLast 41 = .ok (.aload_n 0, 1) := by decide +kernel
theorem dX9_tryLast_42 : decode cX9_tryLast 42 = .ok (.getfield 11, 3) := by decide +kernel
theorem dX9_tryLast_45 : decode cX9_tryLast 45 = .ok (.iconst 0, 1) := by decide +kernel
theorem dX9_tryLast_46 : decode cX9_tryLast 46 = .ok (.iaload, 1) := by decide +kernel
theorem dX9_tryLast_47 : decode cX9_tryLast 47 = .ok (.isub, 1) := by decide +kernel
theorem dX9_tryLast_48 : decode cX9_tryLast 48 = .ok (.putfield 26, 3) := by decide +kernel
theorem dX9_tryLast_51 : decode cX9_tryLast 51 = .ok (.aload_n 0, 1) := by decide +kernel
theorem dX9_tryLast_52 : decode cX9_tryLast 52 = .ok (.getfield 11, 3) := by decide +kernel
theorem dX9_tryLast_55 : decode cX9_tryLast 55 = .ok (.iconst 0, 1) := by decide +kernel
theorem dX9_tryLast_56 : decode cX9_tryLast 56 = .ok (.aload_n 0, 1) := by decide +kernel
theorem dX9_tryLast_57 : decode cX9_tryLast 57 = .ok (.getfield 15, 3) := by decide +kernel
theorem dX9_tryLast_60 : decode cX9_tryLast 60 = .ok (.iconst 0, 1) := by decide +kernel
theorem dX9_tryLast_61 : decode cX9_tryLast 61 = .ok (.aload_n 0, 1) := by decide +kernel
theorem dX9_tryLast_62 : decode cX9_tryLast 62 = .ok (.getfield 22, 3) := by decide +kernel
theorem dX9_tryLast_65 : decode cX9_tryLast 65 = .ok (.invokestatic 47, 3) := by decide +kernel
theorem dX9_tryLast_68 : decode cX9_tryLast 68 = .ok (.return_, 1) := by decide +kernel
theorem dX10_init_0 : decode cX10_init 0 = .ok (.aload_n 0, 1) := by decide +kernel
theorem dX10_init_1 : decode cX10_init 1 = .ok (.invokespecial 3, 3) := by decide +kernel
theorem dX10_init_4 : decode cX10_init 4 = .ok (.aload_n 0, 1) := by decide +kernel
theorem dX10_init_5 : decode cX10_init 5 = .ok (.sipush 2001, 3) := by decide +kernel
theorem dX10_init_8 : decode cX10_init 8 = .ok (.newarray .int, 2) := by decide +kernel
theorem dX10_init_10 : decode cX10_init 10 = .ok (.putfield 11, 3) := by decide +kernel
theorem dX10_init_13 : decode cX10_init 13 = .ok (.aload_n 0, 1) := by decide +kernel
theorem dX10_init_14 : decode cX10_init 14 = .ok (.sipush 2001, 3) := by decide +kernel
theorem dX10_init_17 : decode cX10_init 17 = .ok (.newarray .int, 2) := by decide +kernel
theorem dX10_init_19 : decode cX10_init 19 = .ok (.putfield 15, 3) := by decide +kernel
theorem dX10_init_22 : decode cX10_init 22 = .ok (.aload_n 0, 1) := by decide +kernel
theorem dX10_init_23 : decode cX10_init 23 = .ok (.bipush 6, 2) := by decide +kernel
theorem dX10_init_25 : decode cX10_init 25 = .ok (.sipush 401, 3) := by decide +kernel
theorem dX10_init_28 : decode cX10_init 28 = .ok (.multianewarray 18 2, 4) := by decide +kernel
theorem dX10_init_32 : decode cX10_init 32 = .ok (.putfield 20, 3) := by decide +kernel
theorem dX10_init_35 : decode cX10_init 35 = .ok (.aload_n 0, 1) := by decide +kernel
theorem dX10_init_36 : decode cX10_init 36 = .ok (.bipush (-2), 2) := by decide +kernel
theorem dX10_init_38 : decode cX10_init 38 = .ok (.putfield 23, 3) := by decide +kernel
theorem dX10_init_41 : decode cX10_init 41 = .ok (.aload_n 0, 1) := by decide +kernel
theorem dX10_init_42 : decode cX10_init 42 = .ok (.bipush (-2), 2) := by decide +kernel
theorem dX10_init_44 : decode cX10_init 44 = .ok (.putfield 27, 3) := by decide +kernel
theorem dX10_init_47 : decode cX10_init 47 = .ok (.aload_n 0, 1) := by decide +kernel
theorem dX10_init_48 : decode cX10_init 48 = .ok (.aload_n 1, 1) := by decide +kernel
theorem dX10_init_49 : decode cX10_init 49 = .ok (.putfield 30, 3) := by decide +kernel
theorem dX10_init_52 : decode cX10_init 52 = .ok (.return_, 1) := by decide +kernel
theorem dX10_fewestFor_0 : decode cX10_fewestFor 0 = .ok (.aload_n 0, 1) := by decide +kernel
theorem dX10_fewestFor_1 : decode cX10_fewestFor 1 = .ok (.getfield 23, 3) := by decide +kernel
theorem dX10_fewestFor_4 : decode cX10_fewestFor 4 = .ok (.aload_n 0, 1) := by decide +kernel
theorem dX10_fewestFor_5 : decode cX10_fewestFor 5 = .ok (.getfield 30, 3) := by decide +kernel
theorem dX10_fewestFor_8 : decode cX10_fewestFor 8 = .ok (.invokevirtual 34, 3) := by decide +kernel
theorem dX10_fewestFor_11 : decode cX10_fewestFor 11 = .ok (.if_icmp .eq 18, 3) := by decide +kernel
theorem dX10_fewestFor_14 : decode cX10_fewestFor 14 = .ok (.aload_n 0, 1) := by decide +kernel
theorem dX10_fewestFor_15 : decode cX10_fewestFor 15 = .ok (.aload_n 0, 1) := by decide +kernel
theorem dX10_fewestFor_16 : decode cX10_fewestFor 16 = .ok (.getfield 30, 3) := by decide +kernel
theorem dX10_fewestFor_19 : decode cX10_fewestFor 19 = .ok (.invokevirtual 34, 3) := by decide +kernel
theorem dX10_fewestFor_22 : decode cX10_fewestFor 22 = .ok (.putfield 23, 3) := by decide +kernel
theorem dX10_fewestFor_25 : decode cX10_fewestFor 25 = .ok (.aload_n 0, 1) := by decide +kernel
theorem dX10_fewestFor_26 : decode cX10_fewestFor 26 = .ok (.invokevirtual 40, 3) := by decide +kernel
theorem dX10_fewestFor_29 : decode cX10_fewestFor 29 = .ok (.aload_n 0, 1) := by decide +kernel
theorem dX10_fewestFor_30 : decode cX10_fewestFor 30 = .ok (.getfield 15, 3) := by decide +kernel
theorem dX10_fewestFor_33 : decode cX10_fewestFor 33 = .ok (.iload_n 1, 1) := by decide +kernel
theorem dX10_fewestFor_34 : decode cX10_fewestFor 34 = .ok (.iaload, 1) := by decide +kernel
theorem dX10_fewestFor_35 : decode cX10_fewestFor 35 = .ok (.bipush 10, 2) := by decide +kernel
theorem dX10_fewestFor_37 : decode cX10_fewestFor 37 = .ok (.if_icmp .ge 12, 3) := by decide +kernel
theorem dX10_fewestFor_40 : decode cX10_fewestFor 40 = .ok (.aload_n 0, 1) := by decide +kernel
theorem dX10_fewestFor_41 : decode cX10_fewestFor 41 = .ok (.getfield 15, 3) := by decide +kernel
theorem dX10_fewestFor_44 : decode cX10_fewestFor 44 = .ok (.iload_n 1, 1) := by decide +kernel
theorem dX10_fewestFor_45 : decode cX10_fewestFor 45 = .ok (.iaload, 1) := by decide +kernel
theorem dX10_fewestFor_46 : decode cX10_fewestFor 46 = .ok (.goto 5, 3) := by decide +kernel
theorem dX10_fewestFor_49 : decode cX10_fewestFor 49 = .ok (.bipush (-2), 2) := by decide +kernel
theorem dX10_fewestFor_51 : decode cX10_fewestFor 51 = .ok (.ireturn, 1) := by decide +kernel
theorem dX10_makeFewest_0 : decode cX10_makeFewest 0 = .ok (.aload_n 0, 1) := by decide +kernel
theorem dX10_makeFewest_1 : decode cX10_makeFewest 1 = .ok (.iconst 0, 1) := by decide +kernel
theorem dX10_makeFewest_2 : decode cX10_makeFewest 2 = .ok (.putfield 43, 3) := by decide +kernel
theorem dX10_makeFewest_5 : decode cX10_makeFewest 5 = .ok (.iconst 1, 1) := by decide +kernel
theorem dX10_makeFewest_6 : decode cX10_makeFewest 6 = .ok (.istore_n 1, 1) := by decide +kernel
theorem dX10_makeFewest_7 : decode cX10_makeFewest 7 = .ok (.iload_n 1, 1) := by decide +kernel
theorem dX10_makeFewest_8 : decode cX10_makeFewest 8 = .ok (.sipush 2000, 3) := by decide +kernel
theorem dX10_makeFewest_11 : decode cX10_makeFewest 11 = .ok (.if_icmp .gt 62, 3) := by decide +kernel
theorem dX10_makeFewest_14 : decode cX10_makeFewest 14 = .ok (.aload_n 0, 1) := by decide +kernel
theorem dX10_makeFewest_15 : decode cX10_makeFewest 15 = .ok (.getfield 30, 3) := by decide +kernel
theorem dX10_makeFewest_18 : decode cX10_makeFewest 18 = .ok (.iload_n 1, 1) := by decide +kernel
theorem dX10_makeFewest_19 : decode cX10_makeFewest 19 = .ok (.i2l, 1) := by decide +kernel
theorem dX10_makeFewest_20 : decode cX10_makeFewest 20 = .ok (.invokevirtual 46, 3) := by decide +kernel
theorem dX10_makeFewest_23 : decode cX10_makeFewest 23 = .ok (.ifCond .eq 33, 3) := by decide +kernel
theorem dX10_makeFewest_26 : decode cX10_makeFewest 26 = .ok (.aload_n 0, 1) := by decide +kernel
theorem dX10_makeFewest_27 : decode cX10_makeFewest 27 = .ok (.getfield 15, 3) := by decide +kernel
theorem dX10_makeFewest_30 : decode cX10_makeFewest 30 = .ok (.iload_n 1, 1) := by decide +kernel
theorem dX10_makeFewest_31 : decode cX10_makeFewest 31 = .ok (.iconst 1, 1) := by decide +kernel
theorem dX10_makeFewest_32 : decode cX10_makeFewest 32 = .ok (.iastore, 1) := by decide +kernel
theorem dX10_makeFewest_33 : decode cX10_makeFewest 33 = .ok (.aload_n 0, 1) := by decide +kernel
theorem dX10_makeFewest_34 : decode cX10_makeFewest 34 = .ok (.getfield 11, 3) := by decide +kernel
theorem dX10_makeFewest_37 : decode cX10_makeFewest 37 = .ok (.aload_n 0, 1) := by decide +kernel
theorem dX10_makeFewest_38 : decode cX10_makeFewest 38 = .ok (.getfield 43, 3) := by decide +kernel
theorem dX10_makeFewest_41 : decode cX10_makeFewest 41 = .ok (.iload_n 1, 1) := by decide +kernel
theorem dX10_makeFewest_42 : decode cX10_makeFewest 42 = .ok (.iastore, 1) := by decide +kernel
theorem dX10_makeFewest_43 : decode cX10_makeFewest 43 = .ok (.aload_n 0, 1) := by decide +kernel
theorem dX10_makeFewest_44 : decode cX10_makeFewest 44 = .ok (.dup, 1) := by decide +kernel
theorem dX10_makeFewest_45 : decode cX10_makeFewest 45 = .ok (.getfield 43, 3) := by decide +kernel
theorem dX10_makeFewest_48 : decode cX10_makeFewest 48 = .ok (.iconst 1, 1) := by decide +kernel
theorem dX10_makeFewest_49 : decode cX10_makeFewest 49 = .ok (.iadd, 1) := by decide +kernel
theorem dX10_makeFewest_50 : decode cX10_makeFewest 50 = .ok (.putfield 43, 3) := by decide +kernel
theorem dX10_makeFewest_53 : decode cX10_makeFewest 53 = .ok (.goto 14, 3) := by decide +kernel
theorem dX10_makeFewest_56 : decode cX10_makeFewest 56 = .ok (.aload_n 0, 1) := by decide +kernel
theorem dX10_makeFewest_57 : decode cX10_makeFewest 57 = .ok (.getfield 15, 3) := by decide +kernel
theorem dX10_makeFewest_60 : decode cX10_makeFewest 60 = .ok (.iload_n 1, 1) := by decide +kernel
theorem dX10_makeFewest_61 : decode cX10_makeFewest 61 = .ok (.aload_n 0, 1) := by decide +kernel
theorem dX10_makeFewest_62 : decode cX10_makeFewest 62 = .ok (.iload_n 1, 1) := by decide +kernel
theorem dX10_makeFewest_63 : decode cX10_makeFewest 63 = .ok (.invokevirtual 50, 3) := by decide +kernel
theorem dX10_makeFewest_66 : decode cX10_makeFewest 66 = .ok (.iastore, 1) := by decide +kernel
theorem dX10_makeFewest_67 : decode cX10_makeFewest 67 = .ok (.iinc 1 1, 3) := by decide +kernel
theorem dX10_makeFewest_70 : decode cX10_makeFewest 70 = .ok (.goto (-63), 3) := by decide +kernel
theorem dX10_makeFewest_73 : decode cX10_makeFewest 73 = .ok (.return_, 1) := by decide +kernel
theorem dX10_leastOfTwoOrMore_0 : decode cX10_leastOfTwoOrMore 0 = .ok (.bipush 10, 2) := by decide +kernel
theorem dX10_leastOfTwoOrMore_2 : decode cX10_leastOfTwoOrMore 2 = .ok (.istore_n 2, 1) := by decide +kernel
theorem dX10_leastOfTwoOrMore_3 : decode cX10_leastOfTwoOrMore 3 = .ok (.iconst 0, 1) := by decide +kernel
theorem dX10_leastOfTwoOrMore_4 : decode cX10_leastOfTwoOrMore 4 = .ok (.istore_n 3, 1) := by decide +kernel
theorem dX10_leastOfTwoOrMore_5 : decode cX10_leastOfTwoOrMore 5 = .ok (.iload_n 3, 1) := by decide +kernel
theorem dX10_leastOfTwoOrMore_6 : decode cX10_leastOfTwoOrMore 6 = .ok (.aload_n 0, 1) := by decide +kernel
theorem dX10_leastOfTwoOrMore_7 : decode cX10_leastOfTwoOrMore 7 = .ok (.getfield 43, 3) := by decide +kernel
theorem dX10_leastOfTwoOrMore_10 : decode cX10_leastOfTwoOrMore 10 = .ok (.if_icmp .ge 34, 3) := by decide +kernel
theorem dX10_leastOfTwoOrMore_13 : decode cX10_leastOfTwoOrMore 13 = .ok (.iload_n 2, 1) := by decide +kernel
theorem dX10_leastOfTwoOrMore_14 : decode cX10_leastOfTwoOrMore 14 = .ok (.iconst 2, 1) := by decide +kernel
theorem dX10_leastOfTwoOrMore_15 : decode cX10_leastOfTwoOrMore 15 = .ok (.if_icmp .le 29, 3) := by decide +kernel
theorem dX10_leastOfTwoOrMore_18 : decode cX10_leastOfTwoOrMore 18 = .ok (.iload_n 2, 1) := by decide +kernel
theorem dX10_leastOfTwoOrMore_19 : decode cX10_leastOfTwoOrMore 19 = .ok (.aload_n 0, 1) := by decide +kernel
theorem dX10_leastOfTwoOrMore_20 : decode cX10_leastOfTwoOrMore 20 = .ok (.getfield 15, 3) := by decide +kernel
theorem dX10_leastOfTwoOrMore_23 : decode cX10_leastOfTwoOrMore 23 = .ok (.iload_n 1, 1) := by decide +kernel
theorem dX10_leastOfTwoOrMore_24 : decode cX10_leastOfTwoOrMore 24 = .ok (.aload_n 0, 1) := by decide +kernel
theorem dX10_leastOfTwoOrMore_25 : decode cX10_leastOfTwoOrMore 25 = .ok (.getfield 11, 3) := by decide +kernel
theorem dX10_leastOfTwoOrMore_28 : decode cX10_leastOfTwoOrMore 28 = .ok (.iload_n 3, 1) := by decide +kernel
theorem dX10_leastOfTwoOrMore_29 : decode cX10_leastOfTwoOrMore 29 = .ok (.iaload, 1) := by decide +kernel
theorem dX10_leastOfTwoOrMore_30 : decode cX10_leastOfTwoOrMore 30 = .ok (.isub, 1) := by decide +kernel
theorem dX10_leastOfTwoOrMore_31 : decode cX10_leastOfTwoOrMore 31 = .ok (.iaload, 1) := by decide +kernel
theorem dX10_leastOfTwoOrMore_32 : decode cX10_leastOfTwoOrMore 32 = .ok (.iconst 1, 1) := by decide +kernel
theorem dX10_leastOfTwoOrMore_33 : decode cX10_leastOfTwoOrMore 33 = .ok (.iadd, 1) := by decide +kernel
theorem dX10_leastOfTwoOrMore_34 : decode cX10_leastOfTwoOrMore 34 = .ok (.invokestatic 54, 3) := by decide +kernel
theorem dX10_leastOfTwoOrMore_37 : decode cX10_leastOfTwoOrMore 37 = .ok (.istore_n 2, 1) := by decide +kernel
theorem dX10_leastOfTwoOrMore_38 : decode cX10_leastOfTwoOrMore 38 = .ok (.iinc 3 1, 3) := by decide +kernel
theorem dX10_leastOfTwoOrMore_41 : decode cX10_leastOfTwoOrMore 41 = .ok (.goto (-36), 3) := by decide +kernel
theorem dX10_leastOfTwoOrMore_44 : decode cX10_leastOfTwoOrMore 44 = .ok (.iload_n 2, 1) := by decide +kernel
theorem dX10_leastOfTwoOrMore_45 : decode cX10_leastOfTwoOrMore 45 = .ok (.ireturn, 1) := by decide +kernel
theorem dX10_fewestAt_0 : decode cX10_fewestAt 0 = .ok (.iload_n 1, 1) := by decide +kernel
theorem dX10_fewestAt_1 : decode cX10_fewestAt 1 = .ok (.istore_n 3, 1) := by decide +kernel
theorem dX10_fewestAt_2 : decode cX10_fewestAt 2 = .ok (.iconst 0, 1) := by decide +kernel
theorem dX10_fewestAt_3 : decode cX10_fewestAt 3 = .ok (.istore 4, 2) := by decide +kernel
theorem dX10_fewestAt_5 : decode cX10_fewestAt 5 = .ok (.iload 4, 2) := by decide +kernel
theorem dX10_fewestAt_7 : decode cX10_fewestAt 7 = .ok (.iload_n 2, 1) := by decide +kernel
theorem dX10_fewestAt_8 : decode cX10_fewestAt 8 = .ok (.if_icmp .ge 17, 3) := by decide +kernel
theorem dX10_fewestAt_11 : decode cX10_fewestAt 11 = .ok (.iload_n 3, 1) := by decide +kernel
theorem dX10_fewestAt_12 : decode cX10_fewestAt 12 = .ok (.aload_n 0, 1) := by decide +kernel
theorem dX10_fewestAt_13 : decode cX10_fewestAt 13 = .ok (.iload_n 3, 1) := by decide +kernel
theorem dX10_fewestAt_14 : decode cX10_fewestAt 14 = .ok (.invokevirtual 60, 3) := by decide +kernel
theorem dX10_fewestAt_17 : decode cX10_fewestAt 17 = .ok (.isub, 1) := by decide +kernel
theorem dX10_fewestAt_18 : decode cX10_fewestAt 18 = .ok (.istore_n 3, 1) := by decide +kernel
theorem dX10_fewestAt_19 : decode cX10_fewestAt 19 = .ok (.iinc 4 1, 3) := by decide +kernel
theorem dX10_fewestAt_22 : decode cX10_fewestAt 22 = .ok (.goto (-17), 3) := by decide +kernel
theorem dX10_fewestAt_25 : decode cX10_fewestAt 25 = .ok (.aload_n 0, 1) := by decide +kernel
theorem dX10_fewestAt_26 : decode cX10_fewestAt 26 = .ok (.iload_n 3, 1) := by decide +kernel
theorem dX10_fewestAt_27 : decode cX10_fewestAt 27 = .ok (.invokevirtual 60, 3) := by decide +kernel
theorem dX10_fewestAt_30 : decode cX10_fewestAt 30 = .ok (.ireturn, 1) := by decide +kernel
theorem dX10_greatestFirst_0 : decode cX10_greatestFirst 0 = .ok (.aload_n 0, 1) := by decide +kernel
theorem dX10_greatestFirst_1 : decode cX10_greatestFirst 1 = .ok (.getfield 43, 3) := by decide +kernel
theorem dX10_greatestFirst_4 : decode cX10_greatestFirst 4 = .ok (.iconst 1, 1) := by decide +kernel
theorem dX10_greatestFirst_5 : decode cX10_greatestFirst 5 = .ok (.isub, 1) := by decide +kernel
theorem dX10_greatestFirst_6 : decode cX10_greatestFirst 6 = .ok (.istore_n 2, 1) := by decide +kernel
theorem dX10_greatestFirst_7 : decode cX10_greatestFirst 7 = .ok (.iload_n 2, 1) := by decide +kernel
theorem dX10_greatestFirst_8 : decode cX10_greatestFirst 8 = .ok (.ifCond .lt 42, 3) := by decide +kernel
theorem dX10_greatestFirst_11 : decode cX10_greatestFirst 11 = .ok (.aload_n 0, 1) := by decide +kernel
theorem dX10_greatestFirst_12 : decode cX10_greatestFirst 12 = .ok (.getfield 11, 3) := by decide +kernel
theorem dX10_greatestFirst_15 : decode cX10_greatestFirst 15 = .ok (.iload_n 2, 1) := by decide +kernel
theorem dX10_greatestFirst_16 : decode cX10_greatestFirst 16 = .ok (.iaload, 1) := by decide +kernel
theorem dX10_greatestFirst_17 : decode cX10_greatestFirst 17 = .ok (.istore_n 3, 1) := by decide +kernel
theorem dX10_greatestFirst_18 : decode cX10_greatestFirst 18 = .ok (.iload_n 3, 1) := by decide +kernel
theorem dX10_greatestFirst_19 : decode cX10_greatestFirst 19 = .ok (.iload_n 1, 1) := by decide +kernel
theorem dX10_greatestFirst_20 : decode cX10_greatestFirst 20 = .ok (.if_icmp .gt 24, 3) := by decide +kernel
theorem dX10_greatestFirst_23 : decode cX10_greatestFirst 23 = .ok (.aload_n 0, 1) := by decide +kernel
theorem dX10_greatestFirst_24 : decode cX10_greatestFirst 24 = .ok (.getfield 15, 3) := by decide +kernel
theorem dX10_greatestFirst_27 : decode cX10_greatestFirst 27 = .ok (.iload_n 1, 1) := by decide +kernel
theorem dX10_greatestFirst_28 : decode cX10_greatestFirst 28 = .ok (.iload_n 3, 1) := by decide +kernel
theorem dX10_greatestFirst_29 : decode cX10_greatestFirst 29 = .ok (.isub, 1) := by decide +kernel
theorem dX10_greatestFirst_30 : decode cX10_greatestFirst 30 = .ok (.iaload, 1) := by decide +kernel
theorem dX10_greatestFirst_31 : decode cX10_greatestFirst 31 = .ok (.aload_n 0, 1) := by decide +kernel
theorem dX10_greatestFirst_32 : decode cX10_greatestFirst 32 = .ok (.getfield 15, 3) := by decide +kernel
theorem dX10_greatestFirst_35 : decode cX10_greatestFirst 35 = .ok (.iload_n 1, 1) := by decide +kernel
theorem dX10_greatestFirst_36 : decode cX10_greatestFirst 36 = .ok (.iaload, 1) := by decide +kernel
theorem dX10_greatestFirst_37 : decode cX10_greatestFirst 37 = .ok (.iconst 1, 1) := by decide +kernel
theorem dX10_greatestFirst_38 : decode cX10_greatestFirst 38 = .ok (.isub, 1) := by decide +kernel
theorem dX10_greatestFirst_39 : decode cX10_greatestFirst 39 = .ok (.if_icmp .ne 5, 3) := by decide +kernel
theorem dX10_greatestFirst_42 : decode cX10_greatestFirst 42 = .ok (.iload_n 3, 1) := by decide +kernel
theorem dX10_greatestFirst_43 : decode cX10_greatestFirst 43 = .ok (.ireturn, 1) := by decide +kernel
theorem dX10_greatestFirst_44 : decode cX10_greatestFirst 44 = .ok (.iinc 2 (-1), 3) := by decide +kernel
theorem dX10_greatestFirst_47 : decode cX10_greatestFirst 47 = .ok (.goto (-40), 3) := by decide +kernel
theorem dX10_greatestFirst_50 : decode cX10_greatestFirst 50 = .ok (.iconst 0, 1) := by decide +kernel
theorem dX10_greatestFirst_51 : decode cX10_greatestFirst 51 = .ok (.ireturn, 1) := by decide +kernel
theorem dX10_waysFor_0 : decode cX10_waysFor 0 = .ok (.aload_n 0, 1) := by decide +kernel
theorem dX10_waysFor_1 : decode cX10_waysFor 1 = .ok (.getfield 27, 3) := by decide +kernel
theorem dX10_waysFor_4 : decode cX10_waysFor 4 = .ok (.aload_n 0, 1) := by decide +kernel
theorem dX10_waysFor_5 : decode cX10_waysFor 5 = .ok (.getfield 30, 3) := by decide +kernel
theorem dX10_waysFor_8 : decode cX10_waysFor 8 = .ok (.invokevirtual 34, 3) := by decide +kernel
theorem dX10_waysFor_11 : decode cX10_waysFor 11 = .ok (.if_icmp .eq 18, 3) := by decide +kernel
theorem dX10_waysFor_14 : decode cX10_waysFor 14 = .ok (.aload_n 0, 1) := by decide +kernel
theorem dX10_waysFor_15 : decode cX10_waysFor 15 = .ok (.aload_n 0, 1) := by decide +kernel
theorem dX10_waysFor_16 : decode cX10_waysFor 16 = .ok (.getfield 30, 3) := by decide +kernel
theorem dX10_waysFor_19 : decode cX10_waysFor 19 = .ok (.invokevirtual 34, 3) := by decide +kernel
theorem dX10_waysFor_22 : decode cX10_waysFor 22 = .ok (.putfield 27, 3) := by decide +kernel
theorem dX10_waysFor_25 : decode cX10_waysFor 25 = .ok (.aload_n 0, 1) := by decide +kernel
theorem dX10_waysFor_26 : decode cX10_waysFor 26 = .ok (.invokevirtual 63, 3) := by decide +kernel
theorem dX10_waysFor_29 : decode cX10_waysFor 29 = .ok (.aload_n 0, 1) := by decide +kernel
theorem dX10_waysFor_30 : decode cX10_waysFor 30 = .ok (.getfield 20, 3) := by decide +kernel
theorem dX10_waysFor_33 : decode cX10_waysFor 33 = .ok (.iload_n 2, 1) := by decide +kernel
theorem dX10_waysFor_34 : decode cX10_waysFor 34 = .ok (.aaload, 1) := by decide +kernel
theorem dX10_waysFor_35 : decode cX10_waysFor 35 = .ok (.iload_n 1, 1) := by decide +kernel
theorem dX10_waysFor_36 : decode cX10_waysFor 36 = .ok (.iaload, 1) := by decide +kernel
theorem dX10_waysFor_37 : decode cX10_waysFor 37 = .ok (.ireturn, 1) := by decide +kernel
theorem dX10_makeWays_0 : decode cX10_makeWays 0 = .ok (.iconst 0, 1) := by decide +kernel
theorem dX10_makeWays_1 : decode cX10_makeWays 1 = .ok (.istore_n 1, 1) := by decide +kernel
theorem dX10_makeWays_2 : decode cX10_makeWays 2 = .ok (.iload_n 1, 1) := by decide +kernel
theorem dX10_makeWays_3 : decode cX10_makeWays 3 = .ok (.iconst 5, 1) := by decide +kernel
theorem dX10_makeWays_4 : decode cX10_makeWays 4 = .ok (.if_icmp .gt 19, 3) := by decide +kernel
theorem dX10_makeWays_7 : decode cX10_makeWays 7 = .ok (.aload_n 0, 1) := by decide +kernel
theorem dX10_makeWays_8 : decode cX10_makeWays 8 = .ok (.getfield 20, 3) := by decide +kernel
theorem dX10_makeWays_11 : decode cX10_makeWays 11 = .ok (.iload_n 1, 1) := by decide +kernel
theorem dX10_makeWays_12 : decode cX10_makeWays 12 = .ok (.aaload, 1) := by decide +kernel
theorem dX10_makeWays_13 : decode cX10_makeWays 13 = .ok (.iconst 0, 1) := by decide +kernel
theorem dX10_makeWays_14 : decode cX10_makeWays 14 = .ok (.invokestatic 66, 3) := by decide +kernel
theorem dX10_makeWays_17 : decode cX10_makeWays 17 = .ok (.iinc 1 1, 3) := by decide +kernel
theorem dX10_makeWays_20 : decode cX10_makeWays 20 = .ok (.goto (-18), 3) := by decide +kernel
theorem dX10_makeWays_23 : decode cX10_makeWays 23 = .ok (.aload_n 0, 1) := by decide +kernel
theorem dX10_makeWays_24 : decode cX10_makeWays 24 = .ok (.getfield 20, 3) := by decide +kernel
theorem dX10_makeWays_27 : decode cX10_makeWays 27 = .ok (.iconst 0, 1) := by decide +kernel
theorem dX10_makeWays_28 : decode cX10_makeWays 28 = .ok (.aaload, 1) := by decide +kernel
theorem dX10_makeWays_29 : decode cX10_makeWays 29 = .ok (.iconst 0, 1) := by decide +kernel
theorem dX10_makeWays_30 : decode cX10_makeWays 30 = .ok (.iconst 1, 1) := by decide +kernel
theorem dX10_makeWays_31 : decode cX10_makeWays 31 = .ok (.iastore, 1) := by decide +kernel
theorem dX10_makeWays_32 : decode cX10_makeWays 32 = .ok (.iconst 2, 1) := by decide +kernel
theorem dX10_makeWays_33 : decode cX10_makeWays 33 = .ok (.istore_n 1, 1) := by decide +kernel
theorem dX10_makeWays_34 : decode cX10_makeWays 34 = .ok (.iload_n 1, 1) := by decide +kernel
theorem dX10_makeWays_35 : decode cX10_makeWays 35 = .ok (.sipush 400, 3) := by decide +kernel
theorem dX10_makeWays_38 : decode cX10_makeWays 38 = .ok (.if_icmp .gt 26, 3) := by decide +kernel
theorem dX10_makeWays_41 : decode cX10_makeWays 41 = .ok (.aload_n 0, 1) := by decide +kernel
theorem dX10_makeWays_42 : decode cX10_makeWays 42 = .ok (.getfield 30, 3) := by decide +kernel
theorem dX10_makeWays_45 : decode cX10_makeWays 45 = .ok (.iload_n 1, 1) := by decide +kernel
theorem dX10_makeWays_46 : decode cX10_makeWays 46 = .ok (.i2l, 1) := by decide +kernel
theorem dX10_makeWays_47 : decode cX10_makeWays 47 = .ok (.invokevirtual 46, 3) := by decide +kernel
theorem dX10_makeWays_50 : decode cX10_makeWays 50 = .ok (.ifCond .eq 8, 3) := by decide +kernel
theorem dX10_makeWays_53 : decode cX10_makeWays 53 = .ok (.aload_n 0, 1) := by decide +kernel
theorem dX10_makeWays_54 : decode cX10_makeWays 54 = .ok (.iload_n 1, 1) := by decide +kernel
theorem dX10_makeWays_55 : decode cX10_makeWays 55 = .ok (.invokevirtual 72, 3) := by decide +kernel
theorem dX10_makeWays_58 : decode cX10_makeWays 58 = .ok (.iinc 1 1, 3) := by decide +kernel
theorem dX10_makeWays_61 : decode cX10_makeWays 61 = .ok (.goto (-27), 3) := by decide +kernel
theorem dX10_makeWays_64 : decode cX10_makeWays 64 = .ok (.return_, 1) := by decide +kernel
theorem dX10_addWays_0 : decode cX10_addWays 0 = .ok (.iload_n 1, 1) := by decide +kernel
theorem dX10_addWays_1 : decode cX10_addWays 1 = .ok (.istore_n 2, 1) := by decide +kernel
theorem dX10_addWays_2 : decode cX10_addWays 2 = .ok (.iload_n 2, 1) := by decide +kernel
theorem dX10_addWays_3 : decode cX10_addWays 3 = .ok (.sipush 400, 3) := by decide +kernel
theorem dX10_addWays_6 : decode cX10_addWays 6 = .ok (.if_icmp .gt 56, 3) := by decide +kernel
theorem dX10_addWays_9 : decode cX10_addWays 9 = .ok (.iconst 1, 1) := by decide +kernel
theorem dX10_addWays_10 : decode cX10_addWays 10 = .ok (.istore_n 3, 1) := by decide +kernel
theorem dX10_addWays_11 : decode cX10_addWays 11 = .ok (.iload_n 3, 1) := by decide +kernel
theorem dX10_addWays_12 : decode cX10_addWays 12 = .ok (.iconst 5, 1) := by decide +kernel
theorem dX10_addWays_13 : decode cX10_addWays 13 = .ok (.if_icmp .gt 43, 3) := by decide +kernel
theorem dX10_addWays_16 : decode cX10_addWays 16 = .ok (.aload_n 0, 1) := by decide +kernel
theorem dX10_addWays_17 : decode cX10_addWays 17 = .ok (.getfield 20, 3) := by decide +kernel
theorem dX10_addWays_20 : decode cX10_addWays 20 = .ok (.iload_n 3, 1) := by decide +kernel
theorem dX10_addWays_21 : decode cX10_addWays 21 = .ok (.aaload, 1) := by decide +kernel
theorem dX10_addWays_22 : decode cX10_addWays 22 = .ok (.iload_n 2, 1) := by decide +kernel
theorem dX10_addWays_23 : decode cX10_addWays 23 = .ok (.ldc 76, 2) := by decide +kernel
theorem dX10_addWays_25 : decode cX10_addWays 25 = .ok (.aload_n 0, 1) := by decide +kernel
theorem dX10_addWays_26 : decode cX10_addWays 26 = .ok (.getfield 20, 3) := by decide +kernel
theorem dX10_addWays_29 : decode cX10_addWays 29 = .ok (.iload_n 3, 1) := by decide +kernel
theorem dX10_addWays_30 : decode cX10_addWays 30 = .ok (.aaload, 1) := by decide +kernel
theorem dX10_addWays_31 : decode cX10_addWays 31 = .ok (.iload_n 2, 1) := by decide +kernel
theorem dX10_addWays_32 : decode cX10_addWays 32 = .ok (.iaload, 1) := by decide +kernel
theorem dX10_addWays_33 : decode cX10_addWays 33 = .ok (.aload_n 0, 1) := by decide +kernel
theorem dX10_addWays_34 : decode cX10_addWays 34 = .ok (.getfield 20, 3) := by decide +kernel
theorem dX10_addWays_37 : decode cX10_addWays 37 = .ok (.iload_n 3, 1) := by decide +kernel
theorem dX10_addWays_38 : decode cX10_addWays 38 = .ok (.iconst 1, 1) := by decide +kernel
theorem dX10_addWays_39 : decode cX10_addWays 39 = .ok (.isub, 1) := by decide +kernel
theorem dX10_addWays_40 : decode cX10_addWays 40 = .ok (.aaload, 1) := by decide +kernel
theorem dX10_addWays_41 : decode cX10_addWays 41 = .ok (.iload_n 2, 1) := by decide +kernel
theorem dX10_addWays_42 : decode cX10_addWays 42 = .ok (.iload_n 1, 1) := by decide +kernel
theorem dX10_addWays_43 : decode cX10_addWays 43 = .ok (.isub, 1) := by decide +kernel
theorem dX10_addWays_44 : decode cX10_addWays 44 = .ok (.iaload, 1) := by decide +kernel
theorem dX10_addWays_45 : decode cX10_addWays 45 = .ok (.iadd, 1) := by decide +kernel
theorem dX10_addWays_46 : decode cX10_addWays 46 = .ok (.invokestatic 54, 3) := by decide +kernel
theorem dX10_addWays_49 : decode cX10_addWays 49 = .ok (.iastore, 1) := by decide +kernel
theorem dX10_addWays_50 : decode cX10_addWays 50 = .ok (.iinc 3 1, 3) := by decide +kernel
theorem dX10_addWays_53 : decode cX10_addWays 53 = .ok (.goto (-42), 3) := by decide +kernel
theorem dX10_addWays_56 : decode cX10_addWays 56 = .ok (.iinc 2 1, 3) := by decide +kernel
theorem dX10_addWays_59 : decode cX10_addWays 59 = .ok (.goto (-57), 3) := by decide +kernel
theorem dX10_addWays_62 : decode cX10_addWays 62 = .ok (.return_, 1) := by decide +kernel
theorem dX11_init_0 : decode cX11_init 0 = .ok (.aload_n 0, 1) := by decide +kernel
theorem dX11_init_1 : decode cX11_init 1 = .ok (.invokespecial 1, 3) := by decide +kernel
theorem dX11_init_4 : decode cX11_init 4 = .ok (.aload_n 0, 1) := by decide +kernel
theorem dX11_init_5 : decode cX11_init 5 = .ok (.new 7, 3) := by decide +kernel
theorem dX11_init_8 : decode cX11_init 8 = .ok (.dup, 1) := by decide +kernel
theorem dX11_init_9 : decode cX11_init 9 = .ok (.invokespecial 9, 3) := by decide +kernel
theorem dX11_init_12 : decode cX11_init 12 = .ok (.putfield 10, 3) := by decide +kernel
theorem dX11_init_15 : decode cX11_init 15 = .ok (.aload_n 0, 1) := by decide +kernel
theorem dX11_init_16 : decode cX11_init 16 = .ok (.new 16, 3) := by decide +kernel
theorem dX11_init_19 : decode cX11_init 19 = .ok (.dup, 1) := by decide +kernel
theorem dX11_init_20 : decode cX11_init 20 = .ok (.aload_n 0, 1) := by decide +kernel
theorem dX11_init_21 : decode cX11_init 21 = .ok (.getfield 10, 3) := by decide +kernel
theorem dX11_init_24 : decode cX11_init 24 = .ok (.invokespecial 18, 3) := by decide +kernel
theorem dX11_init_27 : decode cX11_init 27 = .ok (.putfield 21, 3) := by decide +kernel
theorem dX11_init_30 : decode cX11_init 30 = .ok (.aload_n 0, 1) := by decide +kernel
theorem dX11_init_31 : decode cX11_init 31 = .ok (.new 25, 3) := by decide +kernel
theorem dX11_init_34 : decode cX11_init 34 = .ok (.dup, 1) := by decide +kernel
theorem dX11_init_35 : decode cX11_init 35 = .ok (.aload_n 0, 1) := by decide +kernel
theorem dX11_init_36 : decode cX11_init 36 = .ok (.getfield 21, 3) := by decide +kernel
theorem dX11_init_39 : decode cX11_init 39 = .ok (.invokespecial 27, 3) := by decide +kernel
theorem dX11_init_42 : decode cX11_init 42 = .ok (.putfield 30, 3) := by decide +kernel
theorem dX11_init_45 : decode cX11_init 45 = .ok (.aload_n 0, 1) := by decide +kernel
theorem dX11_init_46 : decode cX11_init 46 = .ok (.new 34, 3) := by decide +kernel
theorem dX11_init_49 : decode cX11_init 49 = .ok (.dup, 1) := by decide +kernel
theorem dX11_init_50 : decode cX11_init 50 = .ok (.aload_n 0, 1) := by decide +kernel
theorem dX11_init_51 : decode cX11_init 51 = .ok (.getfield 21, 3) := by decide +kernel
theorem dX11_init_54 : decode cX11_init 54 = .ok (.invokespecial 36, 3) := by decide +kernel
theorem dX11_init_57 : decode cX11_init 57 = .ok (.putfield 37, 3) := by decide +kernel
theorem dX11_init_60 : decode cX11_init 60 = .ok (.aload_n 0, 1) := by decide +kernel
theorem dX11_init_61 : decode cX11_init 61 = .ok (.new 41, 3) := by decide +kernel
theorem dX11_init_64 : decode cX11_init 64 = .ok (.dup, 1) := by decide +kernel
theorem dX11_init_65 : decode cX11_init 65 = .ok (.invokespecial 43, 3) := by decide +kernel
theorem dX11_init_68 : decode cX11_init 68 = .ok (.putfield 44, 3) := by decide +kernel
theorem dX11_init_71 : decode cX11_init 71 = .ok (.aload_n 0, 1) := by decide +kernel
theorem dX11_init_72 : decode cX11_init 72 = .ok (.new 48, 3) := by decide +kernel
theorem dX11_init_75 : decode cX11_init 75 = .ok (.dup, 1) := by decide +kernel
theorem dX11_init_76 : decode cX11_init 76 = .ok (.aload_n 0, 1) := by decide +kernel
theorem dX11_init_77 : decode cX11_init 77 = .ok (.getfield 21, 3) := by decide +kernel
theorem dX11_init_80 : decode cX11_init 80 = .ok (.aload_n 0, 1) := by decide +kernel
theorem dX11_init_81 : decode cX11_init 81 = .ok (.getfield 44, 3) := by decide +kernel
theorem dX11_init_84 : decode cX11_init 84 = .ok (.invokespecial 50, 3) := by decide +kernel
theorem dX11_init_87 : decode cX11_init 87 = .ok (.putfield 53, 3) := by decide +kernel
theorem dX11_init_90 : decode cX11_init 90 = .ok (.aload_n 0, 1) := by decide +kernel
theorem dX11_init_91 : decode cX11_init 91 = .ok (.new 57, 3) := by decide +kernel
theorem dX11_init_94 : decode cX11_init 94 = .ok (.dup, 1) := by decide +kernel
theorem dX11_init_95 : decode cX11_init 95 = .ok (.aload_n 0, 1) := by decide +kernel
theorem dX11_init_96 : decode cX11_init 96 = .ok (.getfield 21, 3) := by decide +kernel
theorem dX11_init_99 : decode cX11_init 99 = .ok (.aload_n 0, 1) := by decide +kernel
theorem dX11_init_100 : decode cX11_init 100 = .ok (.getfield 44, 3) := by decide +kernel
theorem dX11_init_103 : decode cX11_init 103 = .ok (.invokespecial 59, 3) := by decide +kernel
theorem dX11_init_106 : decode cX11_init 106 = .ok (.putfield 60, 3) := by decide +kernel
theorem dX11_init_109 : decode cX11_init 109 = .ok (.aload_n 0, 1) := by decide +kernel
theorem dX11_init_110 : decode cX11_init 110 = .ok (.new 64, 3) := by decide +kernel
theorem dX11_init_113 : decode cX11_init 113 = .ok (.dup, 1) := by decide +kernel
theorem dX11_init_114 : decode cX11_init 114 = .ok (.aload_n 0, 1) := by decide +kernel
theorem dX11_init_115 : decode cX11_init 115 = .ok (.getfield 21, 3) := by decide +kernel
theorem dX11_init_118 : decode cX11_init 118 = .ok (.invokespecial 66, 3) := by decide +kernel
theorem dX11_init_121 : decode cX11_init 121 = .ok (.putfield 67, 3) := by decide +kernel
theorem dX11_init_124 : decode cX11_init 124 = .ok (.aload_n 0, 1) := by decide +kernel
theorem dX11_init_125 : decode cX11_init 125 = .ok (.new 71, 3) := by decide +kernel
theorem dX11_init_128 : decode cX11_init 128 = .ok (.dup, 1) := by decide +kernel
theorem dX11_init_129 : decode cX11_init 129 = .ok (.invokespecial 73, 3) := by decide +kernel
theorem dX11_init_132 : decode cX11_init 132 = .ok (.putfield 74, 3) := by decide +kernel
theorem dX11_init_135 : decode cX11_init 135 = .ok (.aload_n 0, 1) := by decide +kernel
theorem dX11_init_136 : decode cX11_init 136 = .ok (.new 78, 3) := by decide +kernel
theorem dX11_init_139 : decode cX11_init 139 = .ok (.dup, 1) := by decide +kernel
theorem dX11_init_140 : decode cX11_init 140 = .ok (.invokespecial 80, 3) := by decide +kernel
theorem dX11_init_143 : decode cX11_init 143 = .ok (.putfield 81, 3) := by decide +kernel
theorem dX11_init_146 : decode cX11_init 146 = .ok (.aload_n 0, 1) := by decide +kernel
theorem dX11_init_147 : decode cX11_init 147 = .ok (.new 85, 3) := by decide +kernel
theorem dX11_init_150 : decode cX11_init 150 = .ok (.dup, 1) := by decide +kernel
theorem dX11_init_151 : decode cX11_init 151 = .ok (.aload_n 0, 1) := by decide +kernel
theorem dX11_init_152 : decode cX11_init 152 = .ok (.getfield 21, 3) := by decide +kernel
theorem dX11_init_155 : decode cX11_init 155 = .ok (.aload_n 0, 1) := by decide +kernel
theorem dX11_init_156 : decode cX11_init 156 = .ok (.getfield 81, 3) := by decide +kernel
theorem dX11_init_159 : decode cX11_init 159 = .ok (.invokespecial 87, 3) := by decide +kernel
theorem dX11_init_162 : decode cX11_init 162 = .ok (.putfield 90, 3) := by decide +kernel
theorem dX11_init_165 : decode cX11_init 165 = .ok (.return_, 1) := by decide +kernel
theorem dX11_within_0 : decode cX11_within 0 = .ok (.iload_n 0, 1) := by decide +kernel
theorem dX11_within_1 : decode cX11_within 1 = .ok (.iload_n 1, 1) := by decide +kernel
theorem dX11_within_2 : decode cX11_within 2 = .ok (.if_icmp .lt 12, 3) := by decide +kernel
theorem dX11_within_5 : decode cX11_within 5 = .ok (.iload_n 0, 1) := by decide +kernel
theorem dX11_within_6 : decode cX11_within 6 = .ok (.iload_n 2, 1) := by decide +kernel
theorem dX11_within_7 : decode cX11_within 7 = .ok (.if_icmp .gt 7, 3) := by decide +kernel
theorem dX11_within_10 : decode cX11_within 10 = .ok (.iconst 1, 1) := by decide +kernel
theorem dX11_within_11 : decode cX11_within 11 = .ok (.goto 4, 3) := by decide +kernel
theorem dX11_within_14 : decode cX11_within 14 = .ok (.iconst 0, 1) := by decide +kernel
theorem dX11_within_15 : decode cX11_within 15 = .ok (.ireturn, 1) := by decide +kernel
theorem dX11_force_0 : decode cX11_force 0 = .ok (.iload_n 1, 1) := by decide +kernel
theorem dX11_force_1 : decode cX11_force 1 = .ok (.iconst 0, 1) := by decide +kernel
theorem dX11_force_2 : decode cX11_force 2 = .ok (.iconst 3, 1) := by decide +kernel
theorem dX11_force_3 : decode cX11_force 3 = .ok (.invokestatic 94, 3) := by decide +kernel
theorem dX11_force_6 : decode cX11_force 6 = .ok (.ifCond .ne 5, 3) := by decide +kernel
theorem dX11_force_9 : decode cX11_force 9 = .ok (.iconst (-1), 1) := by decide +kernel
theorem dX11_force_10 : decode cX11_force 10 = .ok (.ireturn, 1) := by decide +kernel
theorem dX11_force_11 : decode cX11_force 11 = .ok (.aload_n 0, 1) := by decide +kernel
theorem dX11_force_12 : decode cX11_force 12 = .ok (.getfield 21, 3) := by decide +kernel
theorem dX11_force_15 : decode cX11_force 15 = .ok (.invokevirtual 98, 3) := by decide +kernel
theorem dX11_force_18 : decode cX11_force 18 = .ok (.istore_n 2, 1) := by decide +kernel
theorem dX11_force_19 : decode cX11_force 19 = .ok (.aload_n 0, 1) := by decide +kernel
theorem dX11_force_20 : decode cX11_force 20 = .ok (.getfield 21, 3) := by decide +kernel
theorem dX11_force_23 : decode cX11_force 23 = .ok (.iload_n 1, 1) := by decide +kernel
theorem dX11_force_24 : decode cX11_force 24 = .ok (.invokevirtual 102, 3) := by decide +kernel
theorem dX11_force_27 : decode cX11_force 27 = .ok (.iload_n 2, 1) := by decide +kernel
theorem dX11_force_28 : decode cX11_force 28 = .ok (.ireturn, 1) := by decide +kernel
theorem dX11_lawful_0 : decode cX11_lawful 0 = .ok (.iload_n 1, 1) := by decide +kernel
theorem dX11_lawful_1 : decode cX11_lawful 1 = .ok (.iload_n 2, 1) := by decide +kernel
theorem dX11_lawful_2 : decode cX11_lawful 2 = .ok (.invokestatic 106, 3) := by decide +kernel
theorem dX11_lawful_5 : decode cX11_lawful 5 = .ok (.ifCond .ne 5, 3) := by decide +kernel
theorem dX11_lawful_8 : decode cX11_lawful 8 = .ok (.iconst (-1), 1) := by decide +kernel
theorem dX11_lawful_9 : decode cX11_lawful 9 = .ok (.ireturn, 1) := by decide +kernel
theorem dX11_lawful_10 : decode cX11_lawful 10 = .ok (.aload_n 0, 1) := by decide +kernel
theorem dX11_lawful_11 : decode cX11_lawful 11 = .ok (.getfield 21, 3) := by decide +kernel
theorem dX11_lawful_14 : decode cX11_lawful 14 = .ok (.iload_n 1, 1) := by decide +kernel
theorem dX11_lawful_15 : decode cX11_lawful 15 = .ok (.iload_n 2, 1) := by decide +kernel
theorem dX11_lawful_16 : decode cX11_lawful 16 = .ok (.invokestatic 110, 3) := by decide +kernel
theorem dX11_lawful_19 : decode cX11_lawful 19 = .ok (.invokevirtual 114, 3) := by decide +kernel
theorem dX11_lawful_22 : decode cX11_lawful 22 = .ok (.ifCond .eq 7, 3) := by decide +kernel
theorem dX11_lawful_25 : decode cX11_lawful 25 = .ok (.iconst 1, 1) := by decide +kernel
theorem dX11_lawful_26 : decode cX11_lawful 26 = .ok (.goto 4, 3) := by decide +kernel
theorem dX11_lawful_29 : decode cX11_lawful 29 = .ok (.iconst 0, 1) := by decide +kernel
theorem dX11_lawful_30 : decode cX11_lawful 30 = .ok (.ireturn, 1) := by decide +kernel
theorem dX11_part_0 : decode cX11_part 0 = .ok (.iload_n 1, 1) := by decide +kernel
theorem dX11_part_1 : decode cX11_part 1 = .ok (.iload_n 2, 1) := by decide +kernel
theorem dX11_part_2 : decode cX11_part 2 = .ok (.invokestatic 106, 3) := by decide +kernel
theorem dX11_part_5 : decode cX11_part 5 = .ok (.ifCond .eq 15, 3) := by decide +kernel
theorem dX11_part_8 : decode cX11_part 8 = .ok (.iload_n 1, 1) := by decide +kernel
theorem dX11_part_9 : decode cX11_part 9 = .ok (.iload_n 2, 1) := by decide +kernel
theorem dX11_part_10 : decode cX11_part 10 = .ok (.invokestatic 110, 3) := by decide +kernel
theorem dX11_part_13 : decode cX11_part 13 = .ok (.ldc2_w 118, 3) := by decide +kernel
theorem dX11_part_16 : decode cX11_part 16 = .ok (.lcmp, 1) := by decide +kernel
theorem dX11_part_17 : decode cX11_part 17 = .ok (.ifCond .ge 7, 3) := by decide +kernel
theorem dX11_part_20 : decode cX11_part 20 = .ok (.ldc2_w 122, 3) := by decide +kernel
theorem dX11_part_23 : decode cX11_part 23 = .ok (.lreturn, 1) := by decide +kernel
theorem dX11_part_24 : decode cX11_part 24 = .ok (.aload_n 0, 1) := by decide +kernel
theorem dX11_part_25 : decode cX11_part 25 = .ok (.getfield 10, 3) := by decide +kernel
theorem dX11_part_28 : decode cX11_part 28 = .ok (.iload_n 1, 1) := by decide +kernel
theorem dX11_part_29 : decode cX11_part 29 = .ok (.iload_n 2, 1) := by decide +kernel
theorem dX11_part_30 : decode cX11_part 30 = .ok (.invokestatic 110, 3) := by decide +kernel
theorem dX11_part_33 : decode cX11_part 33 = .ok (.invokevirtual 124, 3) := by decide +kernel
theorem dX11_part_36 : decode cX11_part 36 = .ok (.lreturn, 1) := by decide +kernel
theorem dX11_isBookSum_0 : decode cX11_isBookSum 0 = .ok (.iload_n 0, 1) := by decide +kernel
theorem dX11_isBookSum_1 : decode cX11_isBookSum 1 = .ok (.iconst 0, 1) := by decide +kernel
theorem dX11_isBookSum_2 : decode cX11_isBookSum 2 = .ok (.ldc 128, 2) := by decide +kernel
theorem dX11_isBookSum_4 : decode cX11_isBookSum 4 = .ok (.invokestatic 94, 3) := by decide +kernel
theorem dX11_isBookSum_7 : decode cX11_isBookSum 7 = .ok (.ifCond .eq 17, 3) := by decide +kernel
theorem dX11_isBookSum_10 : decode cX11_isBookSum 10 = .ok (.iload_n 1, 1) := by decide +kernel
theorem dX11_isBookSum_11 : decode cX11_isBookSum 11 = .ok (.iconst 0, 1) := by decide +kernel
theorem dX11_isBookSum_12 : decode cX11_isBookSum 12 = .ok (.ldc 128, 2) := by decide +kernel
theorem dX11_isBookSum_14 : decode cX11_isBookSum 14 = .ok (.invokestatic 94, 3) := by decide +kernel
theorem dX11_isBookSum_17 : decode cX11_isBookSum 17 = .ok (.ifCond .eq 7, 3) := by decide +kernel
theorem dX11_isBookSum_20 : decode cX11_isBookSum 20 = .ok (.iconst 1, 1) := by decide +kernel
theorem dX11_isBookSum_21 : decode cX11_isBookSum 21 = .ok (.goto 4, 3) := by decide +kernel
theorem dX11_isBookSum_24 : decode cX11_isBookSum 24 = .ok (.iconst 0, 1) := by decide +kernel
theorem dX11_isBookSum_25 : decode cX11_isBookSum 25 = .ok (.ireturn, 1) := by decide +kernel
theorem dX11_bookSum_0 : decode cX11_bookSum 0 = .ok (.iload_n 0, 1) := by decide +kernel
theorem dX11_bookSum_1 : decode cX11_bookSum 1 = .ok (.i2l, 1) := by decide +kernel
theorem dX11_bookSum_2 : decode cX11_bookSum 2 = .ok (.ldc2_w 129, 3) := by decide +kernel
theorem dX11_bookSum_5 : decode cX11_bookSum 5 = .ok (.lmul, 1) := by decide +kernel
theorem dX11_bookSum_6 : decode cX11_bookSum 6 = .ok (.iload_n 1, 1) := by decide +kernel
theorem dX11_bookSum_7 : decode cX11_bookSum 7 = .ok (.i2l, 1) := by decide +kernel
theorem dX11_bookSum_8 : decode cX11_bookSum 8 = .ok (.ladd, 1) := by decide +kernel
theorem dX11_bookSum_9 : decode cX11_bookSum 9 = .ok (.lreturn, 1) := by decide +kernel
theorem dX11_parts_0 : decode cX11_parts 0 = .ok (.iload_n 1, 1) := by decide +kernel
theorem dX11_parts_1 : decode cX11_parts 1 = .ok (.iconst 2, 1) := by decide +kernel
theorem dX11_parts_2 : decode cX11_parts 2 = .ok (.ldc 131, 2) := by decide +kernel
theorem dX11_parts_4 : decode cX11_parts 4 = .ok (.invokestatic 94, 3) := by decide +kernel
theorem dX11_parts_7 : decode cX11_parts 7 = .ok (.ifCond .eq 8, 3) := by decide +kernel
theorem dX11_parts_10 : decode cX11_parts 10 = .ok (.iload_n 2, 1) := by decide +kernel
theorem dX11_parts_11 : decode cX11_parts 11 = .ok (.iconst (-1), 1) := by decide +kernel
theorem dX11_parts_12 : decode cX11_parts 12 = .ok (.if_icmp .ge 5, 3) := by decide +kernel
theorem dX11_parts_15 : decode cX11_parts 15 = .ok (.iconst (-1), 1) := by decide +kernel
theorem dX11_parts_16 : decode cX11_parts 16 = .ok (.ireturn, 1) := by decide +kernel
theorem dX11_parts_17 : decode cX11_parts 17 = .ok (.aload_n 0, 1) := by decide +kernel
theorem dX11_parts_18 : decode cX11_parts 18 = .ok (.getfield 10, 3) := by decide +kernel
theorem dX11_parts_21 : decode cX11_parts 21 = .ok (.iload_n 1, 1) := by decide +kernel
theorem dX11_parts_22 : decode cX11_parts 22 = .ok (.invokevirtual 132, 3) := by decide +kernel
theorem dX11_parts_25 : decode cX11_parts 25 = .ok (.istore_n 3, 1) := by decide +kernel
theorem dX11_parts_26 : decode cX11_parts 26 = .ok (.iload_n 2, 1) := by decide +kernel
theorem dX11_parts_27 : decode cX11_parts 27 = .ok (.iconst (-1), 1) := by decide +kernel
theorem dX11_parts_28 : decode cX11_parts 28 = .ok (.if_icmp .ne 5, 3) := by decide +kernel
theorem dX11_parts_31 : decode cX11_parts 31 = .ok (.iload_n 3, 1) := by decide +kernel
theorem dX11_parts_32 : decode cX11_parts 32 = .ok (.ireturn, 1) := by decide +kernel
theorem dX11_parts_33 : decode cX11_parts 33 = .ok (.iload_n 2, 1) := by decide +kernel
theorem dX11_parts_34 : decode cX11_parts 34 = .ok (.iload_n 3, 1) := by decide +kernel
theorem dX11_parts_35 : decode cX11_parts 35 = .ok (.if_icmp .ge 14, 3) := by decide +kernel
theorem dX11_parts_38 : decode cX11_parts 38 = .ok (.aload_n 0, 1) := by decide +kernel
theorem dX11_parts_39 : decode cX11_parts 39 = .ok (.getfield 10, 3) := by decide +kernel
theorem dX11_parts_42 : decode cX11_parts 42 = .ok (.iload_n 2, 1) := by decide +kernel
theorem dX11_parts_43 : decode cX11_parts 43 = .ok (.invokevirtual 136, 3) := by decide +kernel
theorem dX11_parts_46 : decode cX11_parts 46 = .ok (.goto 4, 3) := by decide +kernel
theorem dX11_parts_49 : decode cX11_parts 49 = .ok (.iconst (-1), 1) := by decide +kernel
theorem dX11_parts_50 : decode cX11_parts 50 = .ok (.ireturn, 1) := by decide +kernel
theorem dX11_proof_0 : decode cX11_proof 0 = .ok (.iload_n 1, 1) := by decide +kernel
theorem dX11_proof_1 : decode cX11_proof 1 = .ok (.iconst 3, 1) := by decide +kernel
theorem dX11_proof_2 : decode cX11_proof 2 = .ok (.ldc 131, 2) := by decide +kernel
theorem dX11_proof_4 : decode cX11_proof 4 = .ok (.invokestatic 94, 3) := by decide +kernel
theorem dX11_proof_7 : decode cX11_proof 7 = .ok (.ifCond .ne 5, 3) := by decide +kernel
theorem dX11_proof_10 : decode cX11_proof 10 = .ok (.iconst (-1), 1) := by decide +kernel
theorem dX11_proof_11 : decode cX11_proof 11 = .ok (.ireturn, 1) := by decide +kernel
theorem dX11_proof_12 : decode cX11_proof 12 = .ok (.aload_n 0, 1) := by decide +kernel
theorem dX11_proof_13 : decode cX11_proof 13 = .ok (.getfield 10, 3) := by decide +kernel
theorem dX11_proof_16 : decode cX11_proof 16 = .ok (.iload_n 1, 1) := by decide +kernel
theorem dX11_proof_17 : decode cX11_proof 17 = .ok (.invokevirtual 139, 3) := by decide +kernel
theorem dX11_proof_20 : decode cX11_proof 20 = .ok (.ireturn, 1) := by decide +kernel
theorem dX11_look_0 : decode cX11_look 0 = .ok (.iload_n 1, 1) := by decide +kernel
theorem dX11_look_1 : decode cX11_look 1 = .ok (.iconst 3, 1) := by decide +kernel
theorem dX11_look_2 : decode cX11_look 2 = .ok (.ldc 131, 2) := by decide +kernel
theorem dX11_look_4 : decode cX11_look 4 = .ok (.invokestatic 94, 3) := by decide +kernel
theorem dX11_look_7 : decode cX11_look 7 = .ok (.ifCond .eq 14, 3) := by decide +kernel
theorem dX11_look_10 : decode cX11_look 10 = .ok (.iload_n 2, 1) := by decide +kernel
theorem dX11_look_11 : decode cX11_look 11 = .ok (.iconst 2, 1) := by decide +kernel
theorem dX11_look_12 : decode cX11_look 12 = .ok (.iload_n 1, 1) := by decide +kernel
theorem dX11_look_13 : decode cX11_look 13 = .ok (.iconst 1, 1) := by decide +kernel
theorem dX11_look_14 : decode cX11_look 14 = .ok (.isub, 1) := by decide +kernel
theorem dX11_look_15 : decode cX11_look 15 = .ok (.invokestatic 94, 3) := by decide +kernel
theorem dX11_look_18 : decode cX11_look 18 = .ok (.ifCond .ne 5, 3) := by decide +kernel
theorem dX11_look_21 : decode cX11_look 21 = .ok (.iconst (-1), 1) := by decide +kernel
theorem dX11_look_22 : decode cX11_look 22 = .ok (.ireturn, 1) := by decide +kernel
theorem dX11_look_23 : decode cX11_look 23 = .ok (.aload_n 0, 1) := by decide +kernel
theorem dX11_look_24 : decode cX11_look 24 = .ok (.getfield 10, 3) := by decide +kernel
theorem dX11_look_27 : decode cX11_look 27 = .ok (.iload_n 1, 1) := by decide +kernel
theorem dX11_look_28 : decode cX11_look 28 = .ok (.iload_n 2, 1) := by decide +kernel
theorem dX11_look_29 : decode cX11_look 29 = .ok (.aload_n 0, 1) := by decide +kernel
theorem dX11_look_30 : decode cX11_look 30 = .ok (.getfield 10, 3) := by decide +kernel
theorem dX11_look_33 : decode cX11_look 33 = .ok (.iload_n 1, 1) := by decide +kernel
theorem dX11_look_34 : decode cX11_look 34 = .ok (.iconst 1, 1) := by decide +kernel
theorem dX11_look_35 : decode cX11_look 35 = .ok (.isub, 1) := by decide +kernel
theorem dX11_look_36 : decode cX11_look 36 = .ok (.invokevirtual 132, 3) := by decide +kernel
theorem dX11_look_39 : decode cX11_look 39 = .ok (.invokevirtual 142, 3) := by decide +kernel
theorem dX11_look_42 : decode cX11_look 42 = .ok (.ifCond .eq 7, 3) := by decide +kernel
theorem dX11_look_45 : decode cX11_look 45 = .ok (.iconst 1, 1) := by decide +kernel
theorem dX11_look_46 : decode cX11_look 46 = .ok (.goto 4, 3) := by decide +kernel
theorem dX11_look_49 : decode cX11_look 49 = .ok (.iconst 0, 1) := by decide +kernel
theorem dX11_look_50 : decode cX11_look 50 = .ok (.ireturn, 1) := by decide +kernel
theorem dX11_fewest_0 : decode cX11_fewest 0 = .ok (.iload_n 1, 1) := by decide +kernel
theorem dX11_fewest_1 : decode cX11_fewest 1 = .ok (.iconst 1, 1) := by decide +kernel
theorem dX11_fewest_2 : decode cX11_fewest 2 = .ok (.sipush 2000, 3) := by decide +kernel
theorem dX11_fewest_5 : decode cX11_fewest 5 = .ok (.invokestatic 94, 3) := by decide +kernel
theorem dX11_fewest_8 : decode cX11_fewest 8 = .ok (.ifCond .eq 8, 3) := by decide +kernel
theorem dX11_fewest_11 : decode cX11_fewest 11 = .ok (.iload_n 2, 1) := by decide +kernel
theorem dX11_fewest_12 : decode cX11_fewest 12 = .ok (.iconst (-1), 1) := by decide +kernel
theorem dX11_fewest_13 : decode cX11_fewest 13 = .ok (.if_icmp .ge 5, 3) := by decide +kernel
theorem dX11_fewest_16 : decode cX11_fewest 16 = .ok (.iconst (-1), 1) := by decide +kernel
theorem dX11_fewest_17 : decode cX11_fewest 17 = .ok (.ireturn, 1) := by decide +kernel
theorem dX11_fewest_18 : decode cX11_fewest 18 = .ok (.aload_n 0, 1) := by decide +kernel
theorem dX11_fewest_19 : decode cX11_fewest 19 = .ok (.getfield 30, 3) := by decide +kernel
theorem dX11_fewest_22 : decode cX11_fewest 22 = .ok (.iload_n 1, 1) := by decide +kernel
theorem dX11_fewest_23 : decode cX11_fewest 23 = .ok (.invokevirtual 145, 3) := by decide +kernel
theorem dX11_fewest_26 : decode cX11_fewest 26 = .ok (.istore_n 3, 1) := by decide +kernel
theorem dX11_fewest_27 : decode cX11_fewest 27 = .ok (.iload_n 3, 1) := by decide +kernel
theorem dX11_fewest_28 : decode cX11_fewest 28 = .ok (.bipush (-2), 2) := by decide +kernel
theorem dX11_fewest_30 : decode cX11_fewest 30 = .ok (.if_icmp .eq 8, 3) := by decide +kernel
theorem dX11_fewest_33 : decode cX11_fewest 33 = .ok (.iload_n 2, 1) := by decide +kernel
theorem dX11_fewest_34 : decode cX11_fewest 34 = .ok (.iconst (-1), 1) := by decide +kernel
theorem dX11_fewest_35 : decode cX11_fewest 35 = .ok (.if_icmp .ne 5, 3) := by decide +kernel
theorem dX11_fewest_38 : decode cX11_fewest 38 = .ok (.iload_n 3, 1) := by decide +kernel
theorem dX11_fewest_39 : decode cX11_fewest 39 = .ok (.ireturn, 1) := by decide +kernel
theorem dX11_fewest_40 : decode cX11_fewest 40 = .ok (.iload_n 2, 1) := by decide +kernel
theorem dX11_fewest_41 : decode cX11_fewest 41 = .ok (.iload_n 3, 1) := by decide +kernel
theorem dX11_fewest_42 : decode cX11_fewest 42 = .ok (.if_icmp .ge 15, 3) := by decide +kernel
theorem dX11_fewest_45 : decode cX11_fewest 45 = .ok (.aload_n 0, 1) := by decide +kernel
theorem dX11_fewest_46 : decode cX11_fewest 46 = .ok (.getfield 30, 3) := by decide +kernel
theorem dX11_fewest_49 : decode cX11_fewest 49 = .ok (.iload_n 1, 1) := by decide +kernel
theorem dX11_fewest_50 : decode cX11_fewest 50 = .ok (.iload_n 2, 1) := by decide +kernel
theorem dX11_fewest_51 : decode cX11_fewest 51 = .ok (.invokevirtual 148, 3) := by decide +kernel
theorem dX11_fewest_54 : decode cX11_fewest 54 = .ok (.goto 4, 3) := by decide +kernel
theorem dX11_fewest_57 : decode cX11_fewest 57 = .ok (.iconst (-1), 1) := by decide +kernel
theorem dX11_fewest_58 : decode cX11_fewest 58 = .ok (.ireturn, 1) := by decide +kernel
theorem dX11_counted_0 : decode cX11_counted 0 = .ok (.iload_n 1, 1) := by decide +kernel
theorem dX11_counted_1 : decode cX11_counted 1 = .ok (.iconst 0, 1) := by decide +kernel
theorem dX11_counted_2 : decode cX11_counted 2 = .ok (.sipush 400, 3) := by decide +kernel
theorem dX11_counted_5 : decode cX11_counted 5 = .ok (.invokestatic 94, 3) := by decide +kernel
theorem dX11_counted_8 : decode cX11_counted 8 = .ok (.ifCond .eq 12, 3) := by decide +kernel
theorem dX11_counted_11 : decode cX11_counted 11 = .ok (.iload_n 2, 1) := by decide +kernel
theorem dX11_counted_12 : decode cX11_counted 12 = .ok (.iconst 1, 1) := by decide +kernel
theorem dX11_counted_13 : decode cX11_counted 13 = .ok (.iconst 5, 1) := by decide +kernel
theorem dX11_counted_14 : decode cX11_counted 14 = .ok (.invokestatic 94, 3) := by decide +kernel
theorem dX11_counted_17 : decode cX11_counted 17 = .ok (.ifCond .ne 5, 3) := by decide +kernel
theorem dX11_counted_20 : decode cX11_counted 20 = .ok (.iconst (-1), 1) := by decide +kernel
theorem dX11_counted_21 : decode cX11_counted 21 = .ok (.ireturn, 1) := by decide +kernel
theorem dX11_counted_22 : decode cX11_counted 22 = .ok (.aload_n 0, 1) := by decide +kernel
theorem dX11_counted_23 : decode cX11_counted 23 = .ok (.getfield 30, 3) := by decide +kernel
theorem dX11_counted_26 : decode cX11_counted 26 = .ok (.iload_n 1, 1) := by decide +kernel
theorem dX11_counted_27 : decode cX11_counted 27 = .ok (.iload_n 2, 1) := by decide +kernel
theorem dX11_counted_28 : decode cX11_counted 28 = .ok (.invokevirtual 152, 3) := by decide +kernel
theorem dX11_counted_31 : decode cX11_counted 31 = .ok (.ireturn, 1) := by decide +kernel
theorem dX11_coin_0 : decode cX11_coin 0 = .ok (.iload_n 1, 1) := by decide +kernel
theorem dX11_coin_1 : decode cX11_coin 1 = .ok (.invokestatic 155, 3) := by decide +kernel
theorem dX11_coin_4 : decode cX11_coin 4 = .ok (.ifCond .eq 10, 3) := by decide +kernel
theorem dX11_coin_7 : decode cX11_coin 7 = .ok (.iload_n 2, 1) := by decide +kernel
theorem dX11_coin_8 : decode cX11_coin 8 = .ok (.invokestatic 159, 3) := by decide +kernel
theorem dX11_coin_11 : decode cX11_coin 11 = .ok (.ifCond .ne 5, 3) := by decide +kernel
theorem dX11_coin_14 : decode cX11_coin 14 = .ok (.iconst (-1), 1) := by decide +kernel
theorem dX11_coin_15 : decode cX11_coin 15 = .ok (.ireturn, 1) := by decide +kernel
theorem dX11_coin_16 : decode cX11_coin 16 = .ok (.aload_n 0, 1) := by decide +kernel
theorem dX11_coin_17 : decode cX11_coin 17 = .ok (.getfield 53, 3) := by decide +kernel
theorem dX11_coin_20 : decode cX11_coin 20 = .ok (.iload_n 1, 1) := by decide +kernel
theorem dX11_coin_21 : decode cX11_coin 21 = .ok (.iload_n 2, 1) := by decide +kernel
