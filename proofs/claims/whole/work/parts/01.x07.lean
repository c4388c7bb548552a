theorem dX12_isProof_30 : decode cX12_isProof 30 = .ok (.iconst 1, 1) := by decide +kernel
theorem dX12_isProof_31 : decode cX12_isProof 31 = .ok (.isub, 1) := by decide +kernel
theorem dX12_isProof_32 : decode cX12_isProof 32 = .ok (.aload_n 0, 1) := by decide +kernel
theorem dX12_isProof_33 : decode cX12_isProof 33 = .ok (.getfield 27, 3) := by decide +kernel
theorem dX12_isProof_36 : decode cX12_isProof 36 = .ok (.iload_n 3, 1) := by decide +kernel
theorem dX12_isProof_37 : decode cX12_isProof 37 = .ok (.iaload, 1) := by decide +kernel
theorem dX12_isProof_38 : decode cX12_isProof 38 = .ok (.idiv, 1) := by decide +kernel
theorem dX12_isProof_39 : decode cX12_isProof 39 = .ok (.iload_n 1, 1) := by decide +kernel
theorem dX12_isProof_40 : decode cX12_isProof 40 = .ok (.i2l, 1) := by decide +kernel
theorem dX12_isProof_41 : decode cX12_isProof 41 = .ok (.invokestatic 151, 3) := by decide +kernel
theorem dX12_isProof_44 : decode cX12_isProof 44 = .ok (.lconst 1, 1) := by decide +kernel
theorem dX12_isProof_45 : decode cX12_isProof 45 = .ok (.lcmp, 1) := by decide +kernel
theorem dX12_isProof_46 : decode cX12_isProof 46 = .ok (.ifCond .ne 5, 3) := by decide +kernel
theorem dX12_isProof_49 : decode cX12_isProof 49 = .ok (.iconst 0, 1) := by decide +kernel
theorem dX12_isProof_50 : decode cX12_isProof 50 = .ok (.ireturn, 1) := by decide +kernel
theorem dX12_isProof_51 : decode cX12_isProof 51 = .ok (.iinc 3 1, 3) := by decide +kernel
theorem dX12_isProof_54 : decode cX12_isProof 54 = .ok (.goto (-35), 3) := by decide +kernel
theorem dX12_isProof_57 : decode cX12_isProof 57 = .ok (.iconst 1, 1) := by decide +kernel
theorem dX12_isProof_58 : decode cX12_isProof 58 = .ok (.ireturn, 1) := by decide +kernel
theorem dX12_proof_0 : decode cX12_proof 0 = .ok (.iload_n 1, 1) := by decide +kernel
theorem dX12_proof_1 : decode cX12_proof 1 = .ok (.i2l, 1) := by decide +kernel
theorem dX12_proof_2 : decode cX12_proof 2 = .ok (.ldc2_w 92, 3) := by decide +kernel
theorem dX12_proof_5 : decode cX12_proof 5 = .ok (.ldc2_w 145, 3) := by decide +kernel
theorem dX12_proof_8 : decode cX12_proof 8 = .ok (.invokestatic 123, 3) := by decide +kernel
theorem dX12_proof_11 : decode cX12_proof 11 = .ok (.ifCond .ne 5, 3) := by decide +kernel
theorem dX12_proof_14 : decode cX12_proof 14 = .ok (.iconst (-1), 1) := by decide +kernel
theorem dX12_proof_15 : decode cX12_proof 15 = .ok (.ireturn, 1) := by decide +kernel
theorem dX12_proof_16 : decode cX12_proof 16 = .ok (.aload_n 0, 1) := by decide +kernel
theorem dX12_proof_17 : decode cX12_proof 17 = .ok (.iload_n 1, 1) := by decide +kernel
theorem dX12_proof_18 : decode cX12_proof 18 = .ok (.i2l, 1) := by decide +kernel
theorem dX12_proof_19 : decode cX12_proof 19 = .ok (.invokevirtual 111, 3) := by decide +kernel
theorem dX12_proof_22 : decode cX12_proof 22 = .ok (.ifCond .ne 6, 3) := by decide +kernel
theorem dX12_proof_25 : decode cX12_proof 25 = .ok (.bipush (-2), 2) := by decide +kernel
theorem dX12_proof_27 : decode cX12_proof 27 = .ok (.ireturn, 1) := by decide +kernel
theorem dX12_proof_28 : decode cX12_proof 28 = .ok (.aload_n 0, 1) := by decide +kernel
theorem dX12_proof_29 : decode cX12_proof 29 = .ok (.iload_n 1, 1) := by decide +kernel
theorem dX12_proof_30 : decode cX12_proof 30 = .ok (.iconst 1, 1) := by decide +kernel
theorem dX12_proof_31 : decode cX12_proof 31 = .ok (.isub, 1) := by decide +kernel
theorem dX12_proof_32 : decode cX12_proof 32 = .ok (.invokevirtual 147, 3) := by decide +kernel
theorem dX12_proof_35 : decode cX12_proof 35 = .ok (.iconst 2, 1) := by decide +kernel
theorem dX12_proof_36 : decode cX12_proof 36 = .ok (.istore_n 2, 1) := by decide +kernel
theorem dX12_proof_37 : decode cX12_proof 37 = .ok (.aload_n 0, 1) := by decide +kernel
theorem dX12_proof_38 : decode cX12_proof 38 = .ok (.iload_n 1, 1) := by decide +kernel
theorem dX12_proof_39 : decode cX12_proof 39 = .ok (.iload_n 2, 1) := by decide +kernel
theorem dX12_proof_40 : decode cX12_proof 40 = .ok (.invokevirtual 155, 3) := by decide +kernel
theorem dX12_proof_43 : decode cX12_proof 43 = .ok (.ifCond .ne 9, 3) := by decide +kernel
theorem dX12_proof_46 : decode cX12_proof 46 = .ok (.iinc 2 1, 3) := by decide +kernel
theorem dX12_proof_49 : decode cX12_proof 49 = .ok (.goto (-12), 3) := by decide +kernel
theorem dX12_proof_52 : decode cX12_proof 52 = .ok (.iload_n 2, 1) := by decide +kernel
theorem dX12_proof_53 : decode cX12_proof 53 = .ok (.ireturn, 1) := by decide +kernel
theorem dX12_look_0 : decode cX12_look 0 = .ok (.iload_n 1, 1) := by decide +kernel
theorem dX12_look_1 : decode cX12_look 1 = .ok (.i2l, 1) := by decide +kernel
theorem dX12_look_2 : decode cX12_look 2 = .ok (.ldc2_w 92, 3) := by decide +kernel
theorem dX12_look_5 : decode cX12_look 5 = .ok (.ldc2_w 145, 3) := by decide +kernel
theorem dX12_look_8 : decode cX12_look 8 = .ok (.invokestatic 123, 3) := by decide +kernel
theorem dX12_look_11 : decode cX12_look 11 = .ok (.ifCond .eq 18, 3) := by decide +kernel
theorem dX12_look_14 : decode cX12_look 14 = .ok (.iload_n 2, 1) := by decide +kernel
theorem dX12_look_15 : decode cX12_look 15 = .ok (.i2l, 1) := by decide +kernel
theorem dX12_look_16 : decode cX12_look 16 = .ok (.ldc2_w 90, 3) := by decide +kernel
theorem dX12_look_19 : decode cX12_look 19 = .ok (.iload_n 1, 1) := by decide +kernel
theorem dX12_look_20 : decode cX12_look 20 = .ok (.iconst 1, 1) := by decide +kernel
theorem dX12_look_21 : decode cX12_look 21 = .ok (.isub, 1) := by decide +kernel
theorem dX12_look_22 : decode cX12_look 22 = .ok (.i2l, 1) := by decide +kernel
theorem dX12_look_23 : decode cX12_look 23 = .ok (.invokestatic 123, 3) := by decide +kernel
theorem dX12_look_26 : decode cX12_look 26 = .ok (.ifCond .ne 5, 3) := by decide +kernel
theorem dX12_look_29 : decode cX12_look 29 = .ok (.iconst (-1), 1) := by decide +kernel
theorem dX12_look_30 : decode cX12_look 30 = .ok (.ireturn, 1) := by decide +kernel
theorem dX12_look_31 : decode cX12_look 31 = .ok (.aload_n 0, 1) := by decide +kernel
theorem dX12_look_32 : decode cX12_look 32 = .ok (.iload_n 1, 1) := by decide +kernel
theorem dX12_look_33 : decode cX12_look 33 = .ok (.iconst 1, 1) := by decide +kernel
theorem dX12_look_34 : decode cX12_look 34 = .ok (.isub, 1) := by decide +kernel
theorem dX12_look_35 : decode cX12_look 35 = .ok (.invokevirtual 147, 3) := by decide +kernel
theorem dX12_look_38 : decode cX12_look 38 = .ok (.aload_n 0, 1) := by decide +kernel
theorem dX12_look_39 : decode cX12_look 39 = .ok (.iload_n 1, 1) := by decide +kernel
theorem dX12_look_40 : decode cX12_look 40 = .ok (.iload_n 2, 1) := by decide +kernel
theorem dX12_look_41 : decode cX12_look 41 = .ok (.invokevirtual 155, 3) := by decide +kernel
theorem dX12_look_44 : decode cX12_look 44 = .ok (.ifCond .eq 7, 3) := by decide +kernel
theorem dX12_look_47 : decode cX12_look 47 = .ok (.iconst 1, 1) := by decide +kernel
theorem dX12_look_48 : decode cX12_look 48 = .ok (.goto 4, 3) := by decide +kernel
theorem dX12_look_51 : decode cX12_look 51 = .ok (.iconst 0, 1) := by decide +kernel
theorem dX12_look_52 : decode cX12_look 52 = .ok (.ireturn, 1) := by decide +kernel
theorem dX12_findLawful_0 : decode cX12_findLawful 0 = .ok (.iconst 0, 1) := by decide +kernel
theorem dX12_findLawful_1 : decode cX12_findLawful 1 = .ok (.istore_n 2, 1) := by decide +kernel
theorem dX12_findLawful_2 : decode cX12_findLawful 2 = .ok (.iload_n 2, 1) := by decide +kernel
theorem dX12_findLawful_3 : decode cX12_findLawful 3 = .ok (.iload_n 1, 1) := by decide +kernel
theorem dX12_findLawful_4 : decode cX12_findLawful 4 = .ok (.if_icmp .gt 21, 3) := by decide +kernel
theorem dX12_findLawful_7 : decode cX12_findLawful 7 = .ok (.aload_n 0, 1) := by decide +kernel
theorem dX12_findLawful_8 : decode cX12_findLawful 8 = .ok (.getfield 30, 3) := by decide +kernel
theorem dX12_findLawful_11 : decode cX12_findLawful 11 = .ok (.iload_n 2, 1) := by decide +kernel
theorem dX12_findLawful_12 : decode cX12_findLawful 12 = .ok (.aload_n 0, 1) := by decide +kernel
theorem dX12_findLawful_13 : decode cX12_findLawful 13 = .ok (.iload_n 2, 1) := by decide +kernel
theorem dX12_findLawful_14 : decode cX12_findLawful 14 = .ok (.i2l, 1) := by decide +kernel
theorem dX12_findLawful_15 : decode cX12_findLawful 15 = .ok (.invokevirtual 135, 3) := by decide +kernel
theorem dX12_findLawful_18 : decode cX12_findLawful 18 = .ok (.bastore, 1) := by decide +kernel
theorem dX12_findLawful_19 : decode cX12_findLawful 19 = .ok (.iinc 2 1, 3) := by decide +kernel
theorem dX12_findLawful_22 : decode cX12_findLawful 22 = .ok (.goto (-20), 3) := by decide +kernel
theorem dX12_findLawful_25 : decode cX12_findLawful 25 = .ok (.return_, 1) := by decide +kernel
theorem dX12_findFewest_0 : decode cX12_findFewest 0 = .ok (.aload_n 0, 1) := by decide +kernel
theorem dX12_findFewest_1 : decode cX12_findFewest 1 = .ok (.iload_n 1, 1) := by decide +kernel
theorem dX12_findFewest_2 : decode cX12_findFewest 2 = .ok (.invokevirtual 159, 3) := by decide +kernel
theorem dX12_findFewest_5 : decode cX12_findFewest 5 = .ok (.aload_n 0, 1) := by decide +kernel
theorem dX12_findFewest_6 : decode cX12_findFewest 6 = .ok (.getfield 33, 3) := by decide +kernel
theorem dX12_findFewest_9 : decode cX12_findFewest 9 = .ok (.iconst 0, 1) := by decide +kernel
theorem dX12_findFewest_10 : decode cX12_findFewest 10 = .ok (.iconst 0, 1) := by decide +kernel
theorem dX12_findFewest_11 : decode cX12_findFewest 11 = .ok (.iastore, 1) := by decide +kernel
theorem dX12_findFewest_12 : decode cX12_findFewest 12 = .ok (.iconst 1, 1) := by decide +kernel
theorem dX12_findFewest_13 : decode cX12_findFewest 13 = .ok (.istore_n 2, 1) := by decide +kernel
theorem dX12_findFewest_14 : decode cX12_findFewest 14 = .ok (.iload_n 2, 1) := by decide +kernel
theorem dX12_findFewest_15 : decode cX12_findFewest 15 = .ok (.iload_n 1, 1) := by decide +kernel
theorem dX12_findFewest_16 : decode cX12_findFewest 16 = .ok (.if_icmp .gt 74, 3) := by decide +kernel
theorem dX12_findFewest_19 : decode cX12_findFewest 19 = .ok (.aload_n 0, 1) := by decide +kernel
theorem dX12_findFewest_20 : decode cX12_findFewest 20 = .ok (.getfield 33, 3) := by decide +kernel
theorem dX12_findFewest_23 : decode cX12_findFewest 23 = .ok (.iload_n 2, 1) := by decide +kernel
theorem dX12_findFewest_24 : decode cX12_findFewest 24 = .ok (.bipush 10, 2) := by decide +kernel
theorem dX12_findFewest_26 : decode cX12_findFewest 26 = .ok (.iastore, 1) := by decide +kernel
theorem dX12_findFewest_27 : decode cX12_findFewest 27 = .ok (.iconst 2, 1) := by decide +kernel
theorem dX12_findFewest_28 : decode cX12_findFewest 28 = .ok (.istore_n 3, 1) := by decide +kernel
theorem dX12_findFewest_29 : decode cX12_findFewest 29 = .ok (.iload_n 3, 1) := by decide +kernel
theorem dX12_findFewest_30 : decode cX12_findFewest 30 = .ok (.iload_n 2, 1) := by decide +kernel
theorem dX12_findFewest_31 : decode cX12_findFewest 31 = .ok (.if_icmp .gt 53, 3) := by decide +kernel
theorem dX12_findFewest_34 : decode cX12_findFewest 34 = .ok (.aload_n 0, 1) := by decide +kernel
theorem dX12_findFewest_35 : decode cX12_findFewest 35 = .ok (.getfield 30, 3) := by decide +kernel
theorem dX12_findFewest_38 : decode cX12_findFewest 38 = .ok (.iload_n 3, 1) := by decide +kernel
theorem dX12_findFewest_39 : decode cX12_findFewest 39 = .ok (.baload, 1) := by decide +kernel
theorem dX12_findFewest_40 : decode cX12_findFewest 40 = .ok (.ifCond .eq 38, 3) := by decide +kernel
theorem dX12_findFewest_43 : decode cX12_findFewest 43 = .ok (.aload_n 0, 1) := by decide +kernel
theorem dX12_findFewest_44 : decode cX12_findFewest 44 = .ok (.getfield 33, 3) := by decide +kernel
theorem dX12_findFewest_47 : decode cX12_findFewest 47 = .ok (.iload_n 2, 1) := by decide +kernel
theorem dX12_findFewest_48 : decode cX12_findFewest 48 = .ok (.iload_n 3, 1) := by decide +kernel
theorem dX12_findFewest_49 : decode cX12_findFewest 49 = .ok (.isub, 1) := by decide +kernel
theorem dX12_findFewest_50 : decode cX12_findFewest 50 = .ok (.iaload, 1) := by decide +kernel
theorem dX12_findFewest_51 : decode cX12_findFewest 51 = .ok (.iconst 1, 1) := by decide +kernel
theorem dX12_findFewest_52 : decode cX12_findFewest 52 = .ok (.iadd, 1) := by decide +kernel
theorem dX12_findFewest_53 : decode cX12_findFewest 53 = .ok (.aload_n 0, 1) := by decide +kernel
theorem dX12_findFewest_54 : decode cX12_findFewest 54 = .ok (.getfield 33, 3) := by decide +kernel
theorem dX12_findFewest_57 : decode cX12_findFewest 57 = .ok (.iload_n 2, 1) := by decide +kernel
theorem dX12_findFewest_58 : decode cX12_findFewest 58 = .ok (.iaload, 1) := by decide +kernel
theorem dX12_findFewest_59 : decode cX12_findFewest 59 = .ok (.if_icmp .ge 19, 3) := by decide +kernel
theorem dX12_findFewest_62 : decode cX12_findFewest 62 = .ok (.aload_n 0, 1) := by decide +kernel
theorem dX12_findFewest_63 : decode cX12_findFewest 63 = .ok (.getfield 33, 3) := by decide +kernel
theorem dX12_findFewest_66 : decode cX12_findFewest 66 = .ok (.iload_n 2, 1) := by decide +kernel
theorem dX12_findFewest_67 : decode cX12_findFewest 67 = .ok (.aload_n 0, 1) := by decide +kernel
theorem dX12_findFewest_68 : decode cX12_findFewest 68 = .ok (.getfield 33, 3) := by decide +kernel
theorem dX12_findFewest_71 : decode cX12_findFewest 71 = .ok (.iload_n 2, 1) := by decide +kernel
theorem dX12_findFewest_72 : decode cX12_findFewest 72 = .ok (.iload_n 3, 1) := by decide +kernel
theorem dX12_findFewest_73 : decode cX12_findFewest 73 = .ok (.isub, 1) := by decide +kernel
theorem dX12_findFewest_74 : decode cX12_findFewest 74 = .ok (.iaload, 1) := by decide +kernel
theorem dX12_findFewest_75 : decode cX12_findFewest 75 = .ok (.iconst 1, 1) := by decide +kernel
theorem dX12_findFewest_76 : decode cX12_findFewest 76 = .ok (.iadd, 1) := by decide +kernel
theorem dX12_findFewest_77 : decode cX12_findFewest 77 = .ok (.iastore, 1) := by decide +kernel
theorem dX12_findFewest_78 : decode cX12_findFewest 78 = .ok (.iinc 3 1, 3) := by decide +kernel
theorem dX12_findFewest_81 : decode cX12_findFewest 81 = .ok (.goto (-52), 3) := by decide +kernel
theorem dX12_findFewest_84 : decode cX12_findFewest 84 = .ok (.iinc 2 1, 3) := by decide +kernel
theorem dX12_findFewest_87 : decode cX12_findFewest 87 = .ok (.goto (-73), 3) := by decide +kernel
theorem dX12_findFewest_90 : decode cX12_findFewest 90 = .ok (.return_, 1) := by decide +kernel
theorem dX12_fewest_0 : decode cX12_fewest 0 = .ok (.iload_n 1, 1) := by decide +kernel
theorem dX12_fewest_1 : decode cX12_fewest 1 = .ok (.i2l, 1) := by decide +kernel
theorem dX12_fewest_2 : decode cX12_fewest 2 = .ok (.lconst 1, 1) := by decide +kernel
theorem dX12_fewest_3 : decode cX12_fewest 3 = .ok (.ldc2_w 162, 3) := by decide +kernel
theorem dX12_fewest_6 : decode cX12_fewest 6 = .ok (.invokestatic 123, 3) := by decide +kernel
theorem dX12_fewest_9 : decode cX12_fewest 9 = .ok (.ifCond .eq 8, 3) := by decide +kernel
theorem dX12_fewest_12 : decode cX12_fewest 12 = .ok (.iload_n 2, 1) := by decide +kernel
theorem dX12_fewest_13 : decode cX12_fewest 13 = .ok (.iconst (-1), 1) := by decide +kernel
theorem dX12_fewest_14 : decode cX12_fewest 14 = .ok (.if_icmp .ge 5, 3) := by decide +kernel
theorem dX12_fewest_17 : decode cX12_fewest 17 = .ok (.iconst (-1), 1) := by decide +kernel
theorem dX12_fewest_18 : decode cX12_fewest 18 = .ok (.ireturn, 1) := by decide +kernel
theorem dX12_fewest_19 : decode cX12_fewest 19 = .ok (.aload_n 0, 1) := by decide +kernel
theorem dX12_fewest_20 : decode cX12_fewest 20 = .ok (.iload_n 1, 1) := by decide +kernel
theorem dX12_fewest_21 : decode cX12_fewest 21 = .ok (.invokevirtual 164, 3) := by decide +kernel
theorem dX12_fewest_24 : decode cX12_fewest 24 = .ok (.aload_n 0, 1) := by decide +kernel
theorem dX12_fewest_25 : decode cX12_fewest 25 = .ok (.getfield 33, 3) := by decide +kernel
theorem dX12_fewest_28 : decode cX12_fewest 28 = .ok (.iload_n 1, 1) := by decide +kernel
theorem dX12_fewest_29 : decode cX12_fewest 29 = .ok (.iaload, 1) := by decide +kernel
theorem dX12_fewest_30 : decode cX12_fewest 30 = .ok (.bipush 9, 2) := by decide +kernel
theorem dX12_fewest_32 : decode cX12_fewest 32 = .ok (.if_icmp .le 6, 3) := by decide +kernel
theorem dX12_fewest_35 : decode cX12_fewest 35 = .ok (.bipush (-2), 2) := by decide +kernel
theorem dX12_fewest_37 : decode cX12_fewest 37 = .ok (.ireturn, 1) := by decide +kernel
theorem dX12_fewest_38 : decode cX12_fewest 38 = .ok (.iload_n 2, 1) := by decide +kernel
theorem dX12_fewest_39 : decode cX12_fewest 39 = .ok (.iconst (-1), 1) := by decide +kernel
theorem dX12_fewest_40 : decode cX12_fewest 40 = .ok (.if_icmp .eq 13, 3) := by decide +kernel
theorem dX12_fewest_43 : decode cX12_fewest 43 = .ok (.iload_n 2, 1) := by decide +kernel
theorem dX12_fewest_44 : decode cX12_fewest 44 = .ok (.aload_n 0, 1) := by decide +kernel
theorem dX12_fewest_45 : decode cX12_fewest 45 = .ok (.getfield 33, 3) := by decide +kernel
theorem dX12_fewest_48 : decode cX12_fewest 48 = .ok (.iload_n 1, 1) := by decide +kernel
theorem dX12_fewest_49 : decode cX12_fewest 49 = .ok (.iaload, 1) := by decide +kernel
theorem dX12_fewest_50 : decode cX12_fewest 50 = .ok (.if_icmp .lt 19, 3) := by decide +kernel
theorem dX12_fewest_53 : decode cX12_fewest 53 = .ok (.iload_n 2, 1) := by decide +kernel
theorem dX12_fewest_54 : decode cX12_fewest 54 = .ok (.iconst (-1), 1) := by decide +kernel
theorem dX12_fewest_55 : decode cX12_fewest 55 = .ok (.if_icmp .ne 12, 3) := by decide +kernel
theorem dX12_fewest_58 : decode cX12_fewest 58 = .ok (.aload_n 0, 1) := by decide +kernel
theorem dX12_fewest_59 : decode cX12_fewest 59 = .ok (.getfield 33, 3) := by decide +kernel
theorem dX12_fewest_62 : decode cX12_fewest 62 = .ok (.iload_n 1, 1) := by decide +kernel
theorem dX12_fewest_63 : decode cX12_fewest 63 = .ok (.iaload, 1) := by decide +kernel
theorem dX12_fewest_64 : decode cX12_fewest 64 = .ok (.goto 4, 3) := by decide +kernel
theorem dX12_fewest_67 : decode cX12_fewest 67 = .ok (.iconst (-1), 1) := by decide +kernel
theorem dX12_fewest_68 : decode cX12_fewest 68 = .ok (.ireturn, 1) := by decide +kernel
theorem dX12_fewest_69 : decode cX12_fewest 69 = .ok (.iload_n 1, 1) := by decide +kernel
theorem dX12_fewest_70 : decode cX12_fewest 70 = .ok (.istore_n 3, 1) := by decide +kernel
theorem dX12_fewest_71 : decode cX12_fewest 71 = .ok (.iconst 0, 1) := by decide +kernel
theorem dX12_fewest_72 : decode cX12_fewest 72 = .ok (.istore 4, 2) := by decide +kernel
theorem dX12_fewest_74 : decode cX12_fewest 74 = .ok (.iconst 0, 1) := by decide +kernel
theorem dX12_fewest_75 : decode cX12_fewest 75 = .ok (.istore 5, 2) := by decide +kernel
theorem dX12_fewest_77 : decode cX12_fewest 77 = .ok (.iload 5, 2) := by decide +kernel
theorem dX12_fewest_79 : decode cX12_fewest 79 = .ok (.iload_n 2, 1) := by decide +kernel
theorem dX12_fewest_80 : decode cX12_fewest 80 = .ok (.if_icmp .gt 53, 3) := by decide +kernel
theorem dX12_fewest_83 : decode cX12_fewest 83 = .ok (.iload_n 3, 1) := by decide +kernel
theorem dX12_fewest_84 : decode cX12_fewest 84 = .ok (.istore 4, 2) := by decide +kernel
theorem dX12_fewest_86 : decode cX12_fewest 86 = .ok (.aload_n 0, 1) := by decide +kernel
theorem dX12_fewest_87 : decode cX12_fewest 87 = .ok (.getfield 30, 3) := by decide +kernel
theorem dX12_fewest_90 : decode cX12_fewest 90 = .ok (.iload 4, 2) := by decide +kernel
theorem dX12_fewest_92 : decode cX12_fewest 92 = .ok (.baload, 1) := by decide +kernel
theorem dX12_fewest_93 : decode cX12_fewest 93 = .ok (.ifCond .eq 23, 3) := by decide +kernel
theorem dX12_fewest_96 : decode cX12_fewest 96 = .ok (.aload_n 0, 1) := by decide +kernel
theorem dX12_fewest_97 : decode cX12_fewest 97 = .ok (.getfield 33, 3) := by decide +kernel
theorem dX12_fewest_100 : decode cX12_fewest 100 = .ok (.iload_n 3, 1) := by decide +kernel
theorem dX12_fewest_101 : decode cX12_fewest 101 = .ok (.iload 4, 2) := by decide +kernel
theorem dX12_fewest_103 : decode cX12_fewest 103 = .ok (.isub, 1) := by decide +kernel
theorem dX12_fewest_104 : decode cX12_fewest 104 = .ok (.iaload, 1) := by decide +kernel
theorem dX12_fewest_105 : decode cX12_fewest 105 = .ok (.aload_n 0, 1) := by decide +kernel
theorem dX12_fewest_106 : decode cX12_fewest 106 = .ok (.getfield 33, 3) := by decide +kernel
theorem dX12_fewest_109 : decode cX12_fewest 109 = .ok (.iload_n 3, 1) := by decide +kernel
theorem dX12_fewest_110 : decode cX12_fewest 110 = .ok (.iaload, 1) := by decide +kernel
theorem dX12_fewest_111 : decode cX12_fewest 111 = .ok (.iconst 1, 1) := by decide +kernel
theorem dX12_fewest_112 : decode cX12_fewest 112 = .ok (.isub, 1) := by decide +kernel
theorem dX12_fewest_113 : decode cX12_fewest 113 = .ok (.if_icmp .eq 9, 3) := by decide +kernel
theorem dX12_fewest_116 : decode cX12_fewest 116 = .ok (.iinc 4 (-1), 3) := by decide +kernel
theorem dX12_fewest_119 : decode cX12_fewest 119 = .ok (.goto (-33), 3) := by decide +kernel
theorem dX12_fewest_122 : decode cX12_fewest 122 = .ok (.iload_n 3, 1) := by decide +kernel
theorem dX12_fewest_123 : decode cX12_fewest 123 = .ok (.iload 4, 2) := by decide +kernel
theorem dX12_fewest_125 : decode cX12_fewest 125 = .ok (.isub, 1) := by decide +kernel
theorem dX12_fewest_126 : decode cX12_fewest 126 = .ok (.istore_n 3, 1) := by decide +kernel
theorem dX12_fewest_127 : decode cX12_fewest 127 = .ok (.iinc 5 1, 3) := by decide +kernel
theorem dX12_fewest_130 : decode cX12_fewest 130 = .ok (.goto (-53), 3) := by decide +kernel
theorem dX12_fewest_133 : decode cX12_fewest 133 = .ok (.iload 4, 2) := by decide +kernel
theorem dX12_fewest_135 : decode cX12_fewest 135 = .ok (.ireturn, 1) := by decide +kernel
theorem dX12_counted_0 : decode cX12_counted 0 = .ok (.iload_n 1, 1) := by decide +kernel
theorem dX12_counted_1 : decode cX12_counted 1 = .ok (.i2l, 1) := by decide +kernel
theorem dX12_counted_2 : decode cX12_counted 2 = .ok (.lconst 0, 1) := by decide +kernel
theorem dX12_counted_3 : decode cX12_counted 3 = .ok (.ldc2_w 167, 3) := by decide +kernel
theorem dX12_counted_6 : decode cX12_counted 6 = .ok (.invokestatic 123, 3) := by decide +kernel
theorem dX12_counted_9 : decode cX12_counted 9 = .ok (.ifCond .eq 15, 3) := by decide +kernel
theorem dX12_counted_12 : decode cX12_counted 12 = .ok (.iload_n 2, 1) := by decide +kernel
theorem dX12_counted_13 : decode cX12_counted 13 = .ok (.i2l, 1) := by decide +kernel
theorem dX12_counted_14 : decode cX12_counted 14 = .ok (.lconst 1, 1) := by decide +kernel
theorem dX12_counted_15 : decode cX12_counted 15 = .ok (.ldc2_w 94, 3) := by decide +kernel
theorem dX12_counted_18 : decode cX12_counted 18 = .ok (.invokestatic 123, 3) := by decide +kernel
theorem dX12_counted_21 : decode cX12_counted 21 = .ok (.ifCond .ne 5, 3) := by decide +kernel
theorem dX12_counted_24 : decode cX12_counted 24 = .ok (.iconst (-1), 1) := by decide +kernel
theorem dX12_counted_25 : decode cX12_counted 25 = .ok (.ireturn, 1) := by decide +kernel
theorem dX12_counted_26 : decode cX12_counted 26 = .ok (.iconst 0, 1) := by decide +kernel
theorem dX12_counted_27 : decode cX12_counted 27 = .ok (.istore_n 3, 1) := by decide +kernel
theorem dX12_counted_28 : decode cX12_counted 28 = .ok (.iload_n 3, 1) := by decide +kernel
theorem dX12_counted_29 : decode cX12_counted 29 = .ok (.aload_n 0, 1) := by decide +kernel
theorem dX12_counted_30 : decode cX12_counted 30 = .ok (.getfield 36, 3) := by decide +kernel
theorem dX12_counted_33 : decode cX12_counted 33 = .ok (.arraylength, 1) := by decide +kernel
theorem dX12_counted_34 : decode cX12_counted 34 = .ok (.if_icmp .ge 16, 3) := by decide +kernel
theorem dX12_counted_37 : decode cX12_counted 37 = .ok (.aload_n 0, 1) := by decide +kernel
theorem dX12_counted_38 : decode cX12_counted 38 = .ok (.getfield 36, 3) := by decide +kernel
theorem dX12_counted_41 : decode cX12_counted 41 = .ok (.iload_n 3, 1) := by decide +kernel
theorem dX12_counted_42 : decode cX12_counted 42 = .ok (.lconst 0, 1) := by decide +kernel
theorem dX12_counted_43 : decode cX12_counted 43 = .ok (.lastore, 1) := by decide +kernel
theorem dX12_counted_44 : decode cX12_counted 44 = .ok (.iinc 3 1, 3) := by decide +kernel
theorem dX12_counted_47 : decode cX12_counted 47 = .ok (.goto (-19), 3) := by decide +kernel
theorem dX12_counted_50 : decode cX12_counted 50 = .ok (.aload_n 0, 1) := by decide +kernel
theorem dX12_counted_51 : decode cX12_counted 51 = .ok (.getfield 36, 3) := by decide +kernel
theorem dX12_counted_54 : decode cX12_counted 54 = .ok (.iconst 0, 1) := by decide +kernel
theorem dX12_counted_55 : decode cX12_counted 55 = .ok (.lconst 1, 1) := by decide +kernel
theorem dX12_counted_56 : decode cX12_counted 56 = .ok (.lastore, 1) := by decide +kernel
theorem dX12_counted_57 : decode cX12_counted 57 = .ok (.iconst 2, 1) := by decide +kernel
theorem dX12_counted_58 : decode cX12_counted 58 = .ok (.istore_n 3, 1) := by decide +kernel
theorem dX12_counted_59 : decode cX12_counted 59 = .ok (.iload_n 3, 1) := by decide +kernel
theorem dX12_counted_60 : decode cX12_counted 60 = .ok (.iload_n 1, 1) := by decide +kernel
theorem dX12_counted_61 : decode cX12_counted 61 = .ok (.if_icmp .gt 86, 3) := by decide +kernel
theorem dX12_counted_64 : decode cX12_counted 64 = .ok (.aload_n 0, 1) := by decide +kernel
theorem dX12_counted_65 : decode cX12_counted 65 = .ok (.iload_n 3, 1) := by decide +kernel
theorem dX12_counted_66 : decode cX12_counted 66 = .ok (.i2l, 1) := by decide +kernel
theorem dX12_counted_67 : decode cX12_counted 67 = .ok (.invokevirtual 135, 3) := by decide +kernel
theorem dX12_counted_70 : decode cX12_counted 70 = .ok (.ifCond .ne 6, 3) := by decide +kernel
theorem dX12_counted_73 : decode cX12_counted 73 = .ok (.goto 68, 3) := by decide +kernel
theorem dX12_counted_76 : decode cX12_counted 76 = .ok (.iconst 1, 1) := by decide +kernel
theorem dX12_counted_77 : decode cX12_counted 77 = .ok (.istore 4, 2) := by decide +kernel
theorem dX12_counted_79 : decode cX12_counted 79 = .ok (.iload 4, 2) := by decide +kernel
theorem dX12_counted_81 : decode cX12_counted 81 = .ok (.iload_n 2, 1) := by decide +kernel
theorem dX12_counted_82 : decode cX12_counted 82 = .ok (.if_icmp .gt 59, 3) := by decide +kernel
theorem dX12_counted_85 : decode cX12_counted 85 = .ok (.iload_n 3, 1) := by decide +kernel
theorem dX12_counted_86 : decode cX12_counted 86 = .ok (.istore 5, 2) := by decide +kernel
theorem dX12_counted_88 : decode cX12_counted 88 = .ok (.iload 5, 2) := by decide +kernel
theorem dX12_counted_90 : decode cX12_counted 90 = .ok (.iload_n 1, 1) := by decide +kernel
theorem dX12_counted_91 : decode cX12_counted 91 = .ok (.if_icmp .gt 44, 3) := by decide +kernel
theorem dX12_counted_94 : decode cX12_counted 94 = .ok (.aload_n 0, 1) := by decide +kernel
theorem dX12_counted_95 : decode cX12_counted 95 = .ok (.getfield 36, 3) := by decide +kernel
theorem dX12_counted_98 : decode cX12_counted 98 = .ok (.sipush 401, 3) := by decide +kernel
theorem dX12_counted_101 : decode cX12_counted 101 = .ok (.iload 4, 2) := by decide +kernel
theorem dX12_counted_103 : decode cX12_counted 103 = .ok (.imul, 1) := by decide +kernel
theorem dX12_counted_104 : decode cX12_counted 104 = .ok (.iload 5, 2) := by decide +kernel
theorem dX12_counted_106 : decode cX12_counted 106 = .ok (.iadd, 1) := by decide +kernel
theorem dX12_counted_107 : decode cX12_counted 107 = .ok (.dup2, 1) := by decide +kernel
theorem dX12_counted_108 : decode cX12_counted 108 = .ok (.laload, 1) := by decide +kernel
theorem dX12_counted_109 : decode cX12_counted 109 = .ok (.aload_n 0, 1) := by decide +kernel
theorem dX12_counted_110 : decode cX12_counted 110 = .ok (.getfield 36, 3) := by decide +kernel
theorem dX12_counted_113 : decode cX12_counted 113 = .ok (.sipush 401, 3) := by decide +kernel
theorem dX12_counted_116 : decode cX12_counted 116 = .ok (.iload 4, 2) := by decide +kernel
theorem dX12_counted_118 : decode cX12_counted 118 = .ok (.iconst 1, 1) := by decide +kernel
theorem dX12_counted_119 : decode cX12_counted 119 = .ok (.isub, 1) := by decide +kernel
theorem dX12_counted_120 : decode cX12_counted 120 = .ok (.imul, 1) := by decide +kernel
theorem dX12_counted_121 : decode cX12_counted 121 = .ok (.iload 5, 2) := by decide +kernel
theorem dX12_counted_123 : decode cX12_counted 123 = .ok (.iadd, 1) := by decide +kernel
theorem dX12_counted_124 : decode cX12_counted 124 = .ok (.iload_n 3, 1) := by decide +kernel
theorem dX12_counted_125 : decode cX12_counted 125 = .ok (.isub, 1) := by decide +kernel
theorem dX12_counted_126 : decode cX12_counted 126 = .ok (.laload, 1) := by decide +kernel
theorem dX12_counted_127 : decode cX12_counted 127 = .ok (.ladd, 1) := by decide +kernel
theorem dX12_counted_128 : decode cX12_counted 128 = .ok (.lastore, 1) := by decide +kernel
theorem dX12_counted_129 : decode cX12_counted 129 = .ok (.iinc 5 1, 3) := by decide +kernel
theorem dX12_counted_132 : decode cX12_counted 132 = .ok (.goto (-44), 3) := by decide +kernel
theorem dX12_counted_135 : decode cX12_counted 135 = .ok (.iinc 4 1, 3) := by decide +kernel
theorem dX12_counted_138 : decode cX12_counted 138 = .ok (.goto (-59), 3) := by decide +kernel
theorem dX12_counted_141 : decode cX12_counted 141 = .ok (.iinc 3 1, 3) := by decide +kernel
theorem dX12_counted_144 : decode cX12_counted 144 = .ok (.goto (-85), 3) := by decide +kernel
theorem dX12_counted_147 : decode cX12_counted 147 = .ok (.aload_n 0, 1) := by decide +kernel
theorem dX12_counted_148 : decode cX12_counted 148 = .ok (.getfield 36, 3) := by decide +kernel
theorem dX12_counted_151 : decode cX12_counted 151 = .ok (.sipush 401, 3) := by decide +kernel
theorem dX12_counted_154 : decode cX12_counted 154 = .ok (.iload_n 2, 1) := by decide +kernel
theorem dX12_counted_155 : decode cX12_counted 155 = .ok (.imul, 1) := by decide +kernel
theorem dX12_counted_156 : decode cX12_counted 156 = .ok (.iload_n 1, 1) := by decide +kernel
theorem dX12_counted_157 : decode cX12_counted 157 = .ok (.iadd, 1) := by decide +kernel
theorem dX12_counted_158 : decode cX12_counted 158 = .ok (.laload, 1) := by decide +kernel
theorem dX12_counted_159 : decode cX12_counted 159 = .ok (.lstore_n 3, 1) := by decide +kernel
theorem dX12_counted_160 : decode cX12_counted 160 = .ok (.lload_n 3, 1) := by decide +kernel
theorem dX12_counted_161 : decode cX12_counted 161 = .ok (.ldc2_w 145, 3) := by decide +kernel
theorem dX12_counted_164 : decode cX12_counted 164 = .ok (.lcmp, 1) := by decide +kernel
theorem dX12_counted_165 : decode cX12_counted 165 = .ok (.ifCond .le 8, 3) := by decide +kernel
theorem dX12_counted_168 : decode cX12_counted 168 = .ok (.ldc 169, 2) := by decide +kernel
theorem dX12_counted_170 : decode cX12_counted 170 = .ok (.goto 5, 3) := by decide +kernel
theorem dX12_counted_173 : decode cX12_counted 173 = .ok (.lload_n 3, 1) := by decide +kernel
theorem dX12_counted_174 : decode cX12_counted 174 = .ok (.l2i, 1) := by decide +kernel
theorem dX12_counted_175 : decode cX12_counted 175 = .ok (.ireturn, 1) := by decide +kernel
theorem dX12_coin_0 : decode cX12_coin 0 = .ok (.iload_n 1, 1) := by decide +kernel
theorem dX12_coin_1 : decode cX12_coin 1 = .ok (.i2l, 1) := by decide +kernel
theorem dX12_coin_2 : decode cX12_coin 2 = .ok (.lconst 1, 1) := by decide +kernel
theorem dX12_coin_3 : decode cX12_coin 3 = .ok (.ldc2_w 170, 3) := by decide +kernel
theorem dX12_coin_6 : decode cX12_coin 6 = .ok (.invokestatic 123, 3) := by decide +kernel
theorem dX12_coin_9 : decode cX12_coin 9 = .ok (.ifCond .eq 15, 3) := by decide +kernel
theorem dX12_coin_12 : decode cX12_coin 12 = .ok (.iload_n 2, 1) := by decide +kernel
theorem dX12_coin_13 : decode cX12_coin 13 = .ok (.i2l, 1) := by decide +kernel
theorem dX12_coin_14 : decode cX12_coin 14 = .ok (.lconst 0, 1) := by decide +kernel
theorem dX12_coin_15 : decode cX12_coin 15 = .ok (.ldc2_w 172, 3) := by decide +kernel
theorem dX12_coin_18 : decode cX12_coin 18 = .ok (.invokestatic 123, 3) := by decide +kernel
theorem dX12_coin_21 : decode cX12_coin 21 = .ok (.ifCond .ne 5, 3) := by decide +kernel
theorem dX12_coin_24 : decode cX12_coin 24 = .ok (.iconst (-1), 1) := by decide +kernel
theorem dX12_coin_25 : decode cX12_coin 25 = .ok (.ireturn, 1) := by decide +kernel
theorem dX12_coin_26 : decode cX12_coin 26 = .ok (.aload_n 0, 1) := by decide +kernel
theorem dX12_coin_27 : decode cX12_coin 27 = .ok (.getfield 174, 3) := by decide +kernel
theorem dX12_coin_30 : decode cX12_coin 30 = .ok (.bipush 16, 2) := by decide +kernel
theorem dX12_coin_32 : decode cX12_coin 32 = .ok (.if_icmp .ne 6, 3) := by decide +kernel
theorem dX12_coin_35 : decode cX12_coin 35 = .ok (.bipush (-3), 2) := by decide +kernel
theorem dX12_coin_37 : decode cX12_coin 37 = .ok (.ireturn, 1) := by decide +kernel
theorem dX12_coin_38 : decode cX12_coin 38 = .ok (.aload_n 0, 1) := by decide +kernel
theorem dX12_coin_39 : decode cX12_coin 39 = .ok (.getfield 9, 3) := by decide +kernel
theorem dX12_coin_42 : decode cX12_coin 42 = .ok (.bipush 64, 2) := by decide +kernel
theorem dX12_coin_44 : decode cX12_coin 44 = .ok (.aload_n 0, 1) := by decide +kernel
theorem dX12_coin_45 : decode cX12_coin 45 = .ok (.getfield 174, 3) := by decide +kernel
theorem dX12_coin_48 : decode cX12_coin 48 = .ok (.iadd, 1) := by decide +kernel
theorem dX12_coin_49 : decode cX12_coin 49 = .ok (.iload_n 1, 1) := by decide +kernel
theorem dX12_coin_50 : decode cX12_coin 50 = .ok (.iastore, 1) := by decide +kernel
theorem dX12_coin_51 : decode cX12_coin 51 = .ok (.aload_n 0, 1) := by decide +kernel
theorem dX12_coin_52 : decode cX12_coin 52 = .ok (.getfield 9, 3) := by decide +kernel
theorem dX12_coin_55 : decode cX12_coin 55 = .ok (.bipush 80, 2) := by decide +kernel
theorem dX12_coin_57 : decode cX12_coin 57 = .ok (.aload_n 0, 1) := by decide +kernel
theorem dX12_coin_58 : decode cX12_coin 58 = .ok (.getfield 174, 3) := by decide +kernel
theorem dX12_coin_61 : decode cX12_coin 61 = .ok (.iadd, 1) := by decide +kernel
theorem dX12_coin_62 : decode cX12_coin 62 = .ok (.iload_n 2, 1) := by decide +kernel
theorem dX12_coin_63 : decode cX12_coin 63 = .ok (.iastore, 1) := by decide +kernel
theorem dX12_coin_64 : decode cX12_coin 64 = .ok (.aload_n 0, 1) := by decide +kernel
theorem dX12_coin_65 : decode cX12_coin 65 = .ok (.dup, 1) := by decide +kernel
theorem dX12_coin_66 : decode cX12_coin 66 = .ok (.getfield 174, 3) := by decide +kernel
theorem dX12_coin_69 : decode cX12_coin 69 = .ok (.iconst 1, 1) := by decide +kernel
theorem dX12_coin_70 : decode cX12_coin 70 = .ok (.iadd, 1) := by decide +kernel
theorem dX12_coin_71 : decode cX12_coin 71 = .ok (.putfield 174, 3) := by decide +kernel
theorem dX12_coin_74 : decode cX12_coin 74 = .ok (.aload_n 0, 1) := by decide +kernel
theorem dX12_coin_75 : decode cX12_coin 75 = .ok (.getfield 174, 3) := by decide +kernel
theorem dX12_coin_78 : decode cX12_coin 78 = .ok (.iconst 1, 1) := by decide +kernel
theorem dX12_coin_79 : decode cX12_coin 79 = .ok (.isub, 1) := by decide +kernel
theorem dX12_coin_80 : decode cX12_coin 80 = .ok (.ireturn, 1) := by decide +kernel
theorem dX12_isCoin_0 : decode cX12_isCoin 0 = .ok (.iload_n 1, 1) := by decide +kernel
theorem dX12_isCoin_1 : decode cX12_isCoin 1 = .ok (.i2l, 1) := by decide +kernel
theorem dX12_isCoin_2 : decode cX12_isCoin 2 = .ok (.lconst 0, 1) := by decide +kernel
theorem dX12_isCoin_3 : decode cX12_isCoin 3 = .ok (.aload_n 0, 1) := by decide +kernel
theorem dX12_isCoin_4 : decode cX12_isCoin 4 = .ok (.getfield 174, 3) := by decide +kernel
theorem dX12_isCoin_7 : decode cX12_isCoin 7 = .ok (.iconst 1, 1) := by decide +kernel
theorem dX12_isCoin_8 : decode cX12_isCoin 8 = .ok (.isub, 1) := by decide +kernel
theorem dX12_isCoin_9 : decode cX12_isCoin 9 = .ok (.i2l, 1) := by decide +kernel
theorem dX12_isCoin_10 : decode cX12_isCoin 10 = .ok (.invokestatic 123, 3) := by decide +kernel
theorem dX12_isCoin_13 : decode cX12_isCoin 13 = .ok (.ireturn, 1) := by decide +kernel
theorem dX12_mint_0 : decode cX12_mint 0 = .ok (.aload_n 0, 1) := by decide +kernel
theorem dX12_mint_1 : decode cX12_mint 1 = .ok (.iload_n 1, 1) := by decide +kernel
theorem dX12_mint_2 : decode cX12_mint 2 = .ok (.invokevirtual 177, 3) := by decide +kernel
theorem dX12_mint_5 : decode cX12_mint 5 = .ok (.ifCond .eq 43, 3) := by decide +kernel
theorem dX12_mint_8 : decode cX12_mint 8 = .ok (.iload_n 2, 1) := by decide +kernel
theorem dX12_mint_9 : decode cX12_mint 9 = .ok (.i2l, 1) := by decide +kernel
theorem dX12_mint_10 : decode cX12_mint 10 = .ok (.lconst 0, 1) := by decide +kernel
theorem dX12_mint_11 : decode cX12_mint 11 = .ok (.lconst 1, 1) := by decide +kernel
theorem dX12_mint_12 : decode cX12_mint 12 = .ok (.invokestatic 123, 3) := by decide +kernel
theorem dX12_mint_15 : decode cX12_mint 15 = .ok (.ifCond .eq 33, 3) := by decide +kernel
theorem dX12_mint_18 : decode cX12_mint 18 = .ok (.iload_n 3, 1) := by decide +kernel
theorem dX12_mint_19 : decode cX12_mint 19 = .ok (.i2l, 1) := by decide +kernel
theorem dX12_mint_20 : decode cX12_mint 20 = .ok (.iload_n 2, 1) := by decide +kernel
theorem dX12_mint_21 : decode cX12_mint 21 = .ok (.ifCond .ne 7, 3) := by decide +kernel
theorem dX12_mint_24 : decode cX12_mint 24 = .ok (.lconst 1, 1) := by decide +kernel
theorem dX12_mint_25 : decode cX12_mint 25 = .ok (.goto 4, 3) := by decide +kernel
theorem dX12_mint_28 : decode cX12_mint 28 = .ok (.lconst 0, 1) := by decide +kernel
theorem dX12_mint_29 : decode cX12_mint 29 = .ok (.iload_n 2, 1) := by decide +kernel
theorem dX12_mint_30 : decode cX12_mint 30 = .ok (.ifCond .ne 9, 3) := by decide +kernel
theorem dX12_mint_33 : decode cX12_mint 33 = .ok (.ldc2_w 170, 3) := by decide +kernel
theorem dX12_mint_36 : decode cX12_mint 36 = .ok (.goto 6, 3) := by decide +kernel
theorem dX12_mint_39 : decode cX12_mint 39 = .ok (.ldc2_w 172, 3) := by decide +kernel
theorem dX12_mint_42 : decode cX12_mint 42 = .ok (.invokestatic 123, 3) := by decide +kernel
theorem dX12_mint_45 : decode cX12_mint 45 = .ok (.ifCond .ne 5, 3) := by decide +kernel
theorem dX12_mint_48 : decode cX12_mint 48 = .ok (.iconst (-1), 1) := by decide +kernel
theorem dX12_mint_49 : decode cX12_mint 49 = .ok (.ireturn, 1) := by decide +kernel
theorem dX12_mint_50 : decode cX12_mint 50 = .ok (.aload_n 0, 1) := by decide +kernel
theorem dX12_mint_51 : decode cX12_mint 51 = .ok (.iload_n 2, 1) := by decide +kernel
theorem dX12_mint_52 : decode cX12_mint 52 = .ok (.ifCond .ne 8, 3) := by decide +kernel
theorem dX12_mint_55 : decode cX12_mint 55 = .ok (.bipush 64, 2) := by decide +kernel
theorem dX12_mint_57 : decode cX12_mint 57 = .ok (.goto 5, 3) := by decide +kernel
theorem dX12_mint_60 : decode cX12_mint 60 = .ok (.bipush 80, 2) := by decide +kernel
theorem dX12_mint_62 : decode cX12_mint 62 = .ok (.iload_n 1, 1) := by decide +kernel
theorem dX12_mint_63 : decode cX12_mint 63 = .ok (.iadd, 1) := by decide +kernel
theorem dX12_mint_64 : decode cX12_mint 64 = .ok (.iload_n 3, 1) := by decide +kernel
theorem dX12_mint_65 : decode cX12_mint 65 = .ok (.invokevirtual 180, 3) := by decide +kernel
theorem dX12_mint_68 : decode cX12_mint 68 = .ok (.ireturn, 1) := by decide +kernel
theorem dX12_fewestFrom_0 : decode cX12_fewestFrom 0 = .ok (.aload_n 0, 1) := by decide +kernel
theorem dX12_fewestFrom_1 : decode cX12_fewestFrom 1 = .ok (.getfield 41, 3) := by decide +kernel
theorem dX12_fewestFrom_4 : decode cX12_fewestFrom 4 = .ok (.sipush 2001, 3) := by decide +kernel
theorem dX12_fewestFrom_7 : decode cX12_fewestFrom 7 = .ok (.iload_n 1, 1) := by decide +kernel
theorem dX12_fewestFrom_8 : decode cX12_fewestFrom 8 = .ok (.imul, 1) := by decide +kernel
theorem dX12_fewestFrom_9 : decode cX12_fewestFrom 9 = .ok (.iload_n 2, 1) := by decide +kernel
theorem dX12_fewestFrom_10 : decode cX12_fewestFrom 10 = .ok (.iadd, 1) := by decide +kernel
theorem dX12_fewestFrom_11 : decode cX12_fewestFrom 11 = .ok (.iaload, 1) := by decide +kernel
theorem dX12_fewestFrom_12 : decode cX12_fewestFrom 12 = .ok (.ireturn, 1) := by decide +kernel
theorem dX12_usable_0 : decode cX12_usable 0 = .ok (.aload_n 0, 1) := by decide +kernel
theorem dX12_usable_1 : decode cX12_usable 1 = .ok (.aload_n 0, 1) := by decide +kernel
theorem dX12_usable_2 : decode cX12_usable 2 = .ok (.getfield 9, 3) := by decide +kernel
theorem dX12_usable_5 : decode cX12_usable 5 = .ok (.bipush 64, 2) := by decide +kernel
theorem dX12_usable_7 : decode cX12_usable 7 = .ok (.iload_n 1, 1) := by decide +kernel
theorem dX12_usable_8 : decode cX12_usable 8 = .ok (.iadd, 1) := by decide +kernel
theorem dX12_usable_9 : decode cX12_usable 9 = .ok (.iaload, 1) := by decide +kernel
theorem dX12_usable_10 : decode cX12_usable 10 = .ok (.i2l, 1) := by decide +kernel
theorem dX12_usable_11 : decode cX12_usable 11 = .ok (.invokevirtual 135, 3) := by decide +kernel
theorem dX12_usable_14 : decode cX12_usable 14 = .ok (.ifCond .eq 15, 3) := by decide +kernel
theorem dX12_usable_17 : decode cX12_usable 17 = .ok (.aload_n 0, 1) := by decide +kernel
theorem dX12_usable_18 : decode cX12_usable 18 = .ok (.getfield 9, 3) := by decide +kernel
theorem dX12_usable_21 : decode cX12_usable 21 = .ok (.bipush 80, 2) := by decide +kernel
theorem dX12_usable_23 : decode cX12_usable 23 = .ok (.iload_n 1, 1) := by decide +kernel
theorem dX12_usable_24 : decode cX12_usable 24 = .ok (.iadd, 1) := by decide +kernel
theorem dX12_usable_25 : decode cX12_usable 25 = .ok (.iaload, 1) := by decide +kernel
theorem dX12_usable_26 : decode cX12_usable 26 = .ok (.goto 4, 3) := by decide +kernel
theorem dX12_usable_29 : decode cX12_usable 29 = .ok (.iconst 0, 1) := by decide +kernel
theorem dX12_usable_30 : decode cX12_usable 30 = .ok (.ireturn, 1) := by decide +kernel
theorem dX12_findCoins_0 : decode cX12_findCoins 0 = .ok (.iconst 0, 1) := by decide +kernel
theorem dX12_findCoins_1 : decode cX12_findCoins 1 = .ok (.istore_n 2, 1) := by decide +kernel
theorem dX12_findCoins_2 : decode cX12_findCoins 2 = .ok (.iload_n 2, 1) := by decide +kernel
theorem dX12_findCoins_3 : decode cX12_findCoins 3 = .ok (.iload_n 1, 1) := by decide +kernel
theorem dX12_findCoins_4 : decode cX12_findCoins 4 = .ok (.if_icmp .gt 35, 3) := by decide +kernel
theorem dX12_findCoins_7 : decode cX12_findCoins 7 = .ok (.aload_n 0, 1) := by decide +kernel
theorem dX12_findCoins_8 : decode cX12_findCoins 8 = .ok (.getfield 41, 3) := by decide +kernel
theorem dX12_findCoins_11 : decode cX12_findCoins 11 = .ok (.sipush 2001, 3) := by decide +kernel
theorem dX12_findCoins_14 : decode cX12_findCoins 14 = .ok (.aload_n 0, 1) := by decide +kernel
theorem dX12_findCoins_15 : decode cX12_findCoins 15 = .ok (.getfield 174, 3) := by decide +kernel
theorem dX12_findCoins_18 : decode cX12_findCoins 18 = .ok (.imul, 1) := by decide +kernel
theorem dX12_findCoins_19 : decode cX12_findCoins 19 = .ok (.iload_n 2, 1) := by decide +kernel
theorem dX12_findCoins_20 : decode cX12_findCoins 20 = .ok (.iadd, 1) := by decide +kernel
theorem dX12_findCoins_21 : decode cX12_findCoins 21 = .ok (.iload_n 2, 1) := by decide +kernel
theorem dX12_findCoins_22 : decode cX12_findCoins 22 = .ok (.ifCond .ne 7, 3) := by decide +kernel
theorem dX12_findCoins_25 : decode cX12_findCoins 25 = .ok (.iconst 0, 1) := by decide +kernel
theorem dX12_findCoins_26 : decode cX12_findCoins 26 = .ok (.goto 6, 3) := by decide +kernel
theorem dX12_findCoins_29 : decode cX12_findCoins 29 = .ok (.sipush 1000, 3) := by decide +kernel
theorem dX12_findCoins_32 : decode cX12_findCoins 32 = .ok (.iastore, 1) := by decide +kernel
theorem dX12_findCoins_33 : decode cX12_findCoins 33 = .ok (.iinc 2 1, 3) := by decide +kernel
theorem dX12_findCoins_36 : decode cX12_findCoins 36 = .ok (.goto (-34), 3) := by decide +kernel
theorem dX12_findCoins_39 : decode cX12_findCoins 39 = .ok (.aload_n 0, 1) := by decide +kernel
theorem dX12_findCoins_40 : decode cX12_findCoins 40 = .ok (.getfield 174, 3) := by decide +kernel
theorem dX12_findCoins_43 : decode cX12_findCoins 43 = .ok (.iconst 1, 1) := by decide +kernel
theorem dX12_findCoins_44 : decode cX12_findCoins 44 = .ok (.isub, 1) := by decide +kernel
theorem dX12_findCoins_45 : decode cX12_findCoins 45 = .ok (.istore_n 2, 1) := by decide +kernel
theorem dX12_findCoins_46 : decode cX12_findCoins 46 = .ok (.iload_n 2, 1) := by decide +kernel
theorem dX12_findCoins_47 : decode cX12_findCoins 47 = .ok (.ifCond .lt 122, 3) := by decide +kernel
theorem dX12_findCoins_50 : decode cX12_findCoins 50 = .ok (.aload_n 0, 1) := by decide +kernel
theorem dX12_findCoins_51 : decode cX12_findCoins 51 = .ok (.iload_n 2, 1) := by decide +kernel
theorem dX12_findCoins_52 : decode cX12_findCoins 52 = .ok (.invokevirtual 184, 3) := by decide +kernel
theorem dX12_findCoins_55 : decode cX12_findCoins 55 = .ok (.istore_n 3, 1) := by decide +kernel
theorem dX12_findCoins_56 : decode cX12_findCoins 56 = .ok (.aload_n 0, 1) := by decide +kernel
theorem dX12_findCoins_57 : decode cX12_findCoins 57 = .ok (.getfield 9, 3) := by decide +kernel
theorem dX12_findCoins_60 : decode cX12_findCoins 60 = .ok (.bipush 64, 2) := by decide +kernel
theorem dX12_findCoins_62 : decode cX12_findCoins 62 = .ok (.iload_n 2, 1) := by decide +kernel
theorem dX12_findCoins_63 : decode cX12_findCoins 63 = .ok (.iadd, 1) := by decide +kernel
theorem dX12_findCoins_64 : decode cX12_findCoins 64 = .ok (.iaload, 1) := by decide +kernel
theorem dX12_findCoins_65 : decode cX12_findCoins 65 = .ok (.istore 4, 2) := by decide +kernel
theorem dX12_findCoins_67 : decode cX12_findCoins 67 = .ok (.iconst 0, 1) := by decide +kernel
theorem dX12_findCoins_68 : decode cX12_findCoins 68 = .ok (.istore 5, 2) := by decide +kernel
theorem dX12_findCoins_70 : decode cX12_findCoins 70 = .ok (.iload 5, 2) := by decide +kernel
theorem dX12_findCoins_72 : decode cX12_findCoins 72 = .ok (.iload_n 1, 1) := by decide +kernel
theorem dX12_findCoins_73 : decode cX12_findCoins 73 = .ok (.if_icmp .gt 90, 3) := by decide +kernel
theorem dX12_findCoins_76 : decode cX12_findCoins 76 = .ok (.sipush 1000, 3) := by decide +kernel
theorem dX12_findCoins_79 : decode cX12_findCoins 79 = .ok (.istore 6, 2) := by decide +kernel
theorem dX12_findCoins_81 : decode cX12_findCoins 81 = .ok (.iconst 0, 1) := by decide +kernel
theorem dX12_findCoins_82 : decode cX12_findCoins 82 = .ok (.istore 7, 2) := by decide +kernel
theorem dX12_findCoins_84 : decode cX12_findCoins 84 = .ok (.iload 7, 2) := by decide +kernel
theorem dX12_findCoins_86 : decode cX12_findCoins 86 = .ok (.iload_n 3, 1) := by decide +kernel
theorem dX12_findCoins_87 : decode cX12_findCoins 87 = .ok (.if_icmp .gt 55, 3) := by decide +kernel
theorem dX12_findCoins_90 : decode cX12_findCoins 90 = .ok (.iload 7, 2) := by decide +kernel
theorem dX12_findCoins_92 : decode cX12_findCoins 92 = .ok (.iload 4, 2) := by decide +kernel
theorem dX12_findCoins_94 : decode cX12_findCoins 94 = .ok (.imul, 1) := by decide +kernel
theorem dX12_findCoins_95 : decode cX12_findCoins 95 = .ok (.iload 5, 2) := by decide +kernel
theorem dX12_findCoins_97 : decode cX12_findCoins 97 = .ok (.if_icmp .gt 45, 3) := by decide +kernel
theorem dX12_findCoins_100 : decode cX12_findCoins 100 = .ok (.iload 7, 2) := by decide +kernel
theorem dX12_findCoins_102 : decode cX12_findCoins 102 = .ok (.aload_n 0, 1) := by decide +kernel
theorem dX12_findCoins_103 : decode cX12_findCoins 103 = .ok (.iload_n 2, 1) := by decide +kernel
theorem dX12_findCoins_104 : decode cX12_findCoins 104 = .ok (.iconst 1, 1) := by decide +kernel
theorem dX12_findCoins_105 : decode cX12_findCoins 105 = .ok (.iadd, 1) := by decide +kernel
theorem dX12_findCoins_106 : decode cX12_findCoins 106 = .ok (.iload 5, 2) := by decide +kernel
theorem dX12_findCoins_108 : decode cX12_findCoins 108 = .ok (.iload 7, 2) := by decide +kernel
theorem dX12_findCoins_110 : decode cX12_findCoins 110 = .ok (.iload 4, 2) := by decide +kernel
theorem dX12_findCoins_112 : decode cX12_findCoins 112 = .ok (.imul, 1) := by decide +kernel
theorem dX12_findCoins_113 : decode cX12_findCoins 113 = .ok (.isub, 1) := by decide +kernel
theorem dX12_findCoins_114 : decode cX12_findCoins 114 = .ok (.invokevirtual 188, 3) := by decide +kernel
theorem dX12_findCoins_117 : decode cX12_findCoins 117 = .ok (.iadd, 1) := by decide +kernel
theorem dX12_findCoins_118 : decode cX12_findCoins 118 = .ok (.istore 8, 2) := by decide +kernel
theorem dX12_findCoins_120 : decode cX12_findCoins 120 = .ok (.iload 8, 2) := by decide +kernel
theorem dX12_findCoins_122 : decode cX12_findCoins 122 = .ok (.iload 6, 2) := by decide +kernel
theorem dX12_findCoins_124 : decode cX12_findCoins 124 = .ok (.if_icmp .ge 8, 3) := by decide +kernel
theorem dX12_findCoins_127 : decode cX12_findCoins 127 = .ok (.iload 8, 2) := by decide +kernel
theorem dX12_findCoins_129 : decode cX12_findCoins 129 = .ok (.goto 5, 3) := by decide +kernel
theorem dX12_findCoins_132 : decode cX12_findCoins 132 = .ok (.iload 6, 2) := by decide +kernel
theorem dX12_findCoins_134 : decode cX12_findCoins 134 = .ok (.istore 6, 2) := by decide +kernel
theorem dX12_findCoins_136 : decode cX12_findCoins 136 = .ok (.iinc 7 1, 3) := by decide +kernel
theorem dX12_findCoins_139 : decode cX12_findCoins 139 = .ok (.goto (-55), 3) := by decide +kernel
theorem dX12_findCoins_142 : decode cX12_findCoins 142 = .ok (.aload_n 0, 1) := by decide +kernel
theorem dX12_findCoins_143 : decode cX12_findCoins 143 = .ok (.getfield 41, 3) := by decide +kernel
theorem dX12_findCoins_146 : decode cX12_findCoins 146 = .ok (.sipush 2001, 3) := by decide +kernel
theorem dX12_findCoins_149 : decode cX12_findCoins 149 = .ok (.iload_n 2, 1) := by decide +kernel
theorem dX12_findCoins_150 : decode cX12_findCoins 150 = .ok (.imul, 1) := by decide +kernel
theorem dX12_findCoins_151 : decode cX12_findCoins 151 = .ok (.iload 5, 2) := by decide +kernel
theorem dX12_findCoins_153 : decode cX12_findCoins 153 = .ok (.iadd, 1) := by decide +kernel
theorem dX12_findCoins_154 : decode cX12_findCoins 154 = .ok (.iload 6, 2) := by decide +kernel
theorem dX12_findCoins_156 : decode cX12_findCoins 156 = .ok (.iastore, 1) := by decide +kernel
theorem dX12_findCoins_157 : decode cX12_findCoins 157 = .ok (.iinc 5 1, 3) := by decide +kernel
theorem dX12_findCoins_160 : decode cX12_findCoins 160 = .ok (.goto (-90), 3) := by decide +kernel
theorem dX12_findCoins_163 : decode cX12_findCoins 163 = .ok (.iinc 2 (-1), 3) := by decide +kernel
theorem dX12_findCoins_166 : decode cX12_findCoins 166 = .ok (.goto (-120), 3) := by decide +kernel
theorem dX12_findCoins_169 : decode cX12_findCoins 169 = .ok (.return_, 1) := by decide +kernel
theorem dX12_coins_0 : decode cX12_coins 0 = .ok (.iload_n 1, 1) := by decide +kernel
theorem dX12_coins_1 : decode cX12_coins 1 = .ok (.i2l, 1) := by decide +kernel
theorem dX12_coins_2 : decode cX12_coins 2 = .ok (.lconst 0, 1) := by decide +kernel
theorem dX12_coins_3 : decode cX12_coins 3 = .ok (.ldc2_w 162, 3) := by decide +kernel
theorem dX12_coins_6 : decode cX12_coins 6 = .ok (.invokestatic 123, 3) := by decide +kernel
theorem dX12_coins_9 : decode cX12_coins 9 = .ok (.ifCond .eq 16, 3) := by decide +kernel
theorem dX12_coins_12 : decode cX12_coins 12 = .ok (.iload_n 2, 1) := by decide +kernel
theorem dX12_coins_13 : decode cX12_coins 13 = .ok (.iconst (-1), 1) := by decide +kernel
theorem dX12_coins_14 : decode cX12_coins 14 = .ok (.if_icmp .eq 13, 3) := by decide +kernel
theorem dX12_coins_17 : decode cX12_coins 17 = .ok (.aload_n 0, 1) := by decide +kernel
theorem dX12_coins_18 : decode cX12_coins 18 = .ok (.iload_n 2, 1) := by decide +kernel
theorem dX12_coins_19 : decode cX12_coins 19 = .ok (.invokevirtual 177, 3) := by decide +kernel
theorem dX12_coins_22 : decode cX12_coins 22 = .ok (.ifCond .ne 5, 3) := by decide +kernel
theorem dX12_coins_25 : decode cX12_coins 25 = .ok (.iconst (-1), 1) := by decide +kernel
theorem dX12_coins_26 : decode cX12_coins 26 = .ok (.ireturn, 1) := by decide +kernel
theorem dX12_coins_27 : decode cX12_coins 27 = .ok (.aload_n 0, 1) := by decide +kernel
theorem dX12_coins_28 : decode cX12_coins 28 = .ok (.iload_n 1, 1) := by decide +kernel
theorem dX12_coins_29 : decode cX12_coins 29 = .ok (.invokevirtual 191, 3) := by decide +kernel
theorem dX12_coins_32 : decode cX12_coins 32 = .ok (.aload_n 0, 1) := by decide +kernel
theorem dX12_coins_33 : decode cX12_coins 33 = .ok (.iconst 0, 1) := by decide +kernel
theorem dX12_coins_34 : decode cX12_coins 34 = .ok (.iload_n 1, 1) := by decide +kernel
theorem dX12_coins_35 : decode cX12_coins 35 = .ok (.invokevirtual 188, 3) := by decide +kernel
theorem dX12_coins_38 : decode cX12_coins 38 = .ok (.sipush 1000, 3) := by decide +kernel
theorem dX12_coins_41 : decode cX12_coins 41 = .ok (.if_icmp .lt 6, 3) := by decide +kernel
theorem dX12_coins_44 : decode cX12_coins 44 = .ok (.bipush (-2), 2) := by decide +kernel
theorem dX12_coins_46 : decode cX12_coins 46 = .ok (.ireturn, 1) := by decide +kernel
theorem dX12_coins_47 : decode cX12_coins 47 = .ok (.iload_n 2, 1) := by decide +kernel
theorem dX12_coins_48 : decode cX12_coins 48 = .ok (.iconst (-1), 1) := by decide +kernel
theorem dX12_coins_49 : decode cX12_coins 49 = .ok (.if_icmp .ne 10, 3) := by decide +kernel
theorem dX12_coins_52 : decode cX12_coins 52 = .ok (.aload_n 0, 1) := by decide +kernel
theorem dX12_coins_53 : decode cX12_coins 53 = .ok (.iconst 0, 1) := by decide +kernel
theorem dX12_coins_54 : decode cX12_coins 54 = .ok (.iload_n 1, 1) := by decide +kernel
theorem dX12_coins_55 : decode cX12_coins 55 = .ok (.invokevirtual 188, 3) := by decide +kernel
theorem dX12_coins_58 : decode cX12_coins 58 = .ok (.ireturn, 1) := by decide +kernel
theorem dX12_coins_59 : decode cX12_coins 59 = .ok (.iload_n 1, 1) := by decide +kernel
theorem dX12_coins_60 : decode cX12_coins 60 = .ok (.istore_n 3, 1) := by decide +kernel
theorem dX12_coins_61 : decode cX12_coins 61 = .ok (.iconst 0, 1) := by decide +kernel
theorem dX12_coins_62 : decode cX12_coins 62 = .ok (.istore 4, 2) := by decide +kernel
theorem dX12_coins_64 : decode cX12_coins 64 = .ok (.iconst 0, 1) := by decide +kernel
theorem dX12_coins_65 : decode cX12_coins 65 = .ok (.istore 5, 2) := by decide +kernel
theorem dX12_coins_67 : decode cX12_coins 67 = .ok (.iload 5, 2) := by decide +kernel
theorem dX12_coins_69 : decode cX12_coins 69 = .ok (.iload_n 2, 1) := by decide +kernel
theorem dX12_coins_70 : decode cX12_coins 70 = .ok (.if_icmp .gt 80, 3) := by decide +kernel
theorem dX12_coins_73 : decode cX12_coins 73 = .ok (.aload_n 0, 1) := by decide +kernel
theorem dX12_coins_74 : decode cX12_coins 74 = .ok (.getfield 9, 3) := by decide +kernel
theorem dX12_coins_77 : decode cX12_coins 77 = .ok (.bipush 64, 2) := by decide +kernel
theorem dX12_coins_79 : decode cX12_coins 79 = .ok (.iload 5, 2) := by decide +kernel
theorem dX12_coins_81 : decode cX12_coins 81 = .ok (.iadd, 1) := by decide +kernel
theorem dX12_coins_82 : decode cX12_coins 82 = .ok (.iaload, 1) := by decide +kernel
theorem dX12_coins_83 : decode cX12_coins 83 = .ok (.istore 6, 2) := by decide +kernel
theorem dX12_coins_85 : decode cX12_coins 85 = .ok (.aload_n 0, 1) := by decide +kernel
theorem dX12_coins_86 : decode cX12_coins 86 = .ok (.iload 5, 2) := by decide +kernel
theorem dX12_coins_88 : decode cX12_coins 88 = .ok (.invokevirtual 184, 3) := by decide +kernel
theorem dX12_coins_91 : decode cX12_coins 91 = .ok (.istore 4, 2) := by decide +kernel
theorem dX12_coins_93 : decode cX12_coins 93 = .ok (.iload 4, 2) := by decide +kernel
theorem dX12_coins_95 : decode cX12_coins 95 = .ok (.iload 6, 2) := by decide +kernel
theorem dX12_coins_97 : decode cX12_coins 97 = .ok (.imul, 1) := by decide +kernel
theorem dX12_coins_98 : decode cX12_coins 98 = .ok (.iload_n 3, 1) := by decide +kernel
theorem dX12_coins_99 : decode cX12_coins 99 = .ok (.if_icmp .gt 31, 3) := by decide +kernel
theorem dX12_coins_102 : decode cX12_coins 102 = .ok (.iload 4, 2) := by decide +kernel
theorem dX12_coins_104 : decode cX12_coins 104 = .ok (.aload_n 0, 1) := by decide +kernel
theorem dX12_coins_105 : decode cX12_coins 105 = .ok (.iload 5, 2) := by decide +kernel
theorem dX12_coins_107 : decode cX12_coins 107 = .ok (.iconst 1, 1) := by decide +kernel
theorem dX12_coins_108 : decode cX12_coins 108 = .ok (.iadd, 1) := by decide +kernel
theorem dX12_coins_109 : decode cX12_coins 109 = .ok (.iload_n 3, 1) := by decide +kernel
theorem dX12_coins_110 : decode cX12_coins 110 = .ok (.iload 4, 2) := by decide +kernel
theorem dX12_coins_112 : decode cX12_coins 112 = .ok (.iload 6, 2) := by decide +kernel
theorem dX12_coins_114 : decode cX12_coins 114 = .ok (.imul, 1) := by decide +kernel
theorem dX12_coins_115 : decode cX12_coins 115 = .ok (.isub, 1) := by decide +kernel
theorem dX12_coins_116 : decode cX12_coins 116 = .ok (.invokevirtual 188, 3) := by decide +kernel
theorem dX12_coins_119 : decode cX12_coins 119 = .ok (.iadd, 1) := by decide +kernel
theorem dX12_coins_120 : decode cX12_coins 120 = .ok (.aload_n 0, 1) := by decide +kernel
theorem dX12_coins_121 : decode cX12_coins 121 = .ok (.iload 5, 2) := by decide +kernel
theorem dX12_coins_123 : decode cX12_coins 123 = .ok (.iload_n 3, 1) := by decide +kernel
theorem dX12_coins_124 : decode cX12_coins 124 = .ok (.invokevirtual 188, 3) := by decide +kernel
theorem dX12_coins_127 : decode cX12_coins 127 = .ok (.if_icmp .eq 9, 3) := by decide +kernel
theorem dX12_coins_130 : decode cX12_coins 130 = .ok (.iinc 4 (-1), 3) := by decide +kernel
theorem dX12_coins_133 : decode cX12_coins 133 = .ok (.goto (-40), 3) := by decide +kernel
theorem dX12_coins_136 : decode cX12_coins 136 = .ok (.iload_n 3, 1) := by decide +kernel
theorem dX12_coins_137 : decode cX12_coins 137 = .ok (.iload 4, 2) := by decide +kernel
theorem dX12_coins_139 : decode cX12_coins 139 = .ok (.iload 6, 2) := by decide +kernel
theorem dX12_coins_141 : decode cX12_coins 141 = .ok (.imul, 1) := by decide +kernel
theorem dX12_coins_142 : decode cX12_coins 142 = .ok (.isub, 1) := by decide +kernel
theorem dX12_coins_143 : decode cX12_coins 143 = .ok (.istore_n 3, 1) := by decide +kernel
theorem dX12_coins_144 : decode cX12_coins 144 = .ok (.iinc 5 1, 3) := by decide +kernel
theorem dX12_coins_147 : decode cX12_coins 147 = .ok (.goto (-80), 3) := by decide +kernel
theorem dX12_coins_150 : decode cX12_coins 150 = .ok (.iload 4, 2) := by decide +kernel
theorem dX12_coins_152 : decode cX12_coins 152 = .ok (.ireturn, 1) := by decide +kernel
theorem dX12_change_0 : decode cX12_change 0 = .ok (.iload_n 1, 1) := by decide +kernel
theorem dX12_change_1 : decode cX12_change 1 = .ok (.i2l, 1) := by decide +kernel
theorem dX12_change_2 : decode cX12_change 2 = .ok (.lconst 1, 1) := by decide +kernel
theorem dX12_change_3 : decode cX12_change 3 = .ok (.ldc2_w 162, 3) := by decide +kernel
theorem dX12_change_6 : decode cX12_change 6 = .ok (.invokestatic 123, 3) := by decide +kernel
theorem dX12_change_9 : decode cX12_change 9 = .ok (.ifCond .ne 5, 3) := by decide +kernel
theorem dX12_change_12 : decode cX12_change 12 = .ok (.iconst (-1), 1) := by decide +kernel
theorem dX12_change_13 : decode cX12_change 13 = .ok (.ireturn, 1) := by decide +kernel
theorem dX12_change_14 : decode cX12_change 14 = .ok (.iconst 1, 1) := by decide +kernel
theorem dX12_change_15 : decode cX12_change 15 = .ok (.istore_n 2, 1) := by decide +kernel
theorem dX12_change_16 : decode cX12_change 16 = .ok (.iload_n 2, 1) := by decide +kernel
theorem dX12_change_17 : decode cX12_change 17 = .ok (.sipush 2000, 3) := by decide +kernel
theorem dX12_change_20 : decode cX12_change 20 = .ok (.if_icmp .gt 31, 3) := by decide +kernel
theorem dX12_change_23 : decode cX12_change 23 = .ok (.aload_n 0, 1) := by decide +kernel
theorem dX12_change_24 : decode cX12_change 24 = .ok (.iload_n 2, 1) := by decide +kernel
theorem dX12_change_25 : decode cX12_change 25 = .ok (.i2l, 1) := by decide +kernel
theorem dX12_change_26 : decode cX12_change 26 = .ok (.invokevirtual 135, 3) := by decide +kernel
theorem dX12_change_29 : decode cX12_change 29 = .ok (.ifCond .eq 16, 3) := by decide +kernel
theorem dX12_change_32 : decode cX12_change 32 = .ok (.aload_n 0, 1) := by decide +kernel
theorem dX12_change_33 : decode cX12_change 33 = .ok (.iload_n 1, 1) := by decide +kernel
theorem dX12_change_34 : decode cX12_change 34 = .ok (.iload_n 2, 1) := by decide +kernel
theorem dX12_change_35 : decode cX12_change 35 = .ok (.iadd, 1) := by decide +kernel
theorem dX12_change_36 : decode cX12_change 36 = .ok (.i2l, 1) := by decide +kernel
theorem dX12_change_37 : decode cX12_change 37 = .ok (.invokevirtual 135, 3) := by decide +kernel
theorem dX12_change_40 : decode cX12_change 40 = .ok (.ifCond .eq 5, 3) := by decide +kernel
theorem dX12_change_43 : decode cX12_change 43 = .ok (.iload_n 2, 1) := by decide +kernel
theorem dX12_change_44 : decode cX12_change 44 = .ok (.ireturn, 1) := by decide +kernel
theorem dX12_change_45 : decode cX12_change 45 = .ok (.iinc 2 1, 3) := by decide +kernel
theorem dX12_change_48 : decode cX12_change 48 = .ok (.goto (-32), 3) := by decide +kernel
theorem dX12_change_51 : decode cX12_change 51 = .ok (.bipush (-2), 2) := by decide +kernel
theorem dX12_change_53 : decode cX12_change 53 = .ok (.ireturn, 1) := by decide +kernel
theorem dX12_third_0 : decode cX12_third 0 = .ok (.iload_n 1, 1) := by decide +kernel
theorem dX12_third_1 : decode cX12_third 1 = .ok (.i2l, 1) := by decide +kernel
theorem dX12_third_2 : decode cX12_third 2 = .ok (.lconst 1, 1) := by decide +kernel
theorem dX12_third_3 : decode cX12_third 3 = .ok (.ldc2_w 194, 3) := by decide +kernel
theorem dX12_third_6 : decode cX12_third 6 = .ok (.invokestatic 123, 3) := by decide +kernel
theorem dX12_third_9 : decode cX12_third 9 = .ok (.ifCond .ne 5, 3) := by decide +kernel
theorem dX12_third_12 : decode cX12_third 12 = .ok (.iconst (-1), 1) := by decide +kernel
theorem dX12_third_13 : decode cX12_third 13 = .ok (.ireturn, 1) := by decide +kernel
theorem dX12_third_14 : decode cX12_third 14 = .ok (.iload_n 1, 1) := by decide +kernel
theorem dX12_third_15 : decode cX12_third 15 = .ok (.iconst 2, 1) := by decide +kernel
theorem dX12_third_16 : decode cX12_third 16 = .ok (.idiv, 1) := by decide +kernel
theorem dX12_third_17 : decode cX12_third 17 = .ok (.istore_n 2, 1) := by decide +kernel
theorem dX12_third_18 : decode cX12_third 18 = .ok (.iload_n 2, 1) := by decide +kernel
theorem dX12_third_19 : decode cX12_third 19 = .ok (.iconst 2, 1) := by decide +kernel
theorem dX12_third_20 : decode cX12_third 20 = .ok (.if_icmp .lt 31, 3) := by decide +kernel
theorem dX12_third_23 : decode cX12_third 23 = .ok (.aload_n 0, 1) := by decide +kernel
theorem dX12_third_24 : decode cX12_third 24 = .ok (.iload_n 2, 1) := by decide +kernel
theorem dX12_third_25 : decode cX12_third 25 = .ok (.i2l, 1) := by decide +kernel
theorem dX12_third_26 : decode cX12_third 26 = .ok (.invokevirtual 135, 3) := by decide +kernel
theorem dX12_third_29 : decode cX12_third 29 = .ok (.ifCond .eq 16, 3) := by decide +kernel
theorem dX12_third_32 : decode cX12_third 32 = .ok (.aload_n 0, 1) := by decide +kernel
theorem dX12_third_33 : decode cX12_third 33 = .ok (.iload_n 1, 1) := by decide +kernel
theorem dX12_third_34 : decode cX12_third 34 = .ok (.iload_n 2, 1) := by decide +kernel
theorem dX12_third_35 : decode cX12_third 35 = .ok (.isub, 1) := by decide +kernel
theorem dX12_third_36 : decode cX12_third 36 = .ok (.i2l, 1) := by decide +kernel
theorem dX12_third_37 : decode cX12_third 37 = .ok (.invokevirtual 135, 3) := by decide +kernel
theorem dX12_third_40 : decode cX12_third 40 = .ok (.ifCond .eq 5, 3) := by decide +kernel
theorem dX12_third_43 : decode cX12_third 43 = .ok (.iload_n 2, 1) := by decide +kernel
theorem dX12_third_44 : decode cX12_third 44 = .ok (.ireturn, 1) := by decide +kernel
theorem dX12_third_45 : decode cX12_third 45 = .ok (.iinc 2 (-1), 3) := by decide +kernel
theorem dX12_third_48 : decode cX12_third 48 = .ok (.goto (-30), 3) := by decide +kernel
