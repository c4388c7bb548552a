theorem dX7_learn_16 : decode cX7_learn 16 = .ok (.iconst 0, 1) := by decide +kernel
theorem dX7_learn_17 : decode cX7_learn 17 = .ok (.istore_n 2, 1) := by decide +kernel
theorem dX7_learn_18 : decode cX7_learn 18 = .ok (.iload_n 2, 1) := by decide +kernel
theorem dX7_learn_19 : decode cX7_learn 19 = .ok (.aload_n 0, 1) := by decide +kernel
theorem dX7_learn_20 : decode cX7_learn 20 = .ok (.getfield 24, 3) := by decide +kernel
theorem dX7_learn_23 : decode cX7_learn 23 = .ok (.if_icmp .ge 20, 3) := by decide +kernel
theorem dX7_learn_26 : decode cX7_learn 26 = .ok (.aload_n 0, 1) := by decide +kernel
theorem dX7_learn_27 : decode cX7_learn 27 = .ok (.getfield 11, 3) := by decide +kernel
theorem dX7_learn_30 : decode cX7_learn 30 = .ok (.iload_n 2, 1) := by decide +kernel
theorem dX7_learn_31 : decode cX7_learn 31 = .ok (.aload_n 1, 1) := by decide +kernel
theorem dX7_learn_32 : decode cX7_learn 32 = .ok (.iload_n 2, 1) := by decide +kernel
theorem dX7_learn_33 : decode cX7_learn 33 = .ok (.invokevirtual 38, 3) := by decide +kernel
theorem dX7_learn_36 : decode cX7_learn 36 = .ok (.iastore, 1) := by decide +kernel
theorem dX7_learn_37 : decode cX7_learn 37 = .ok (.iinc 2 1, 3) := by decide +kernel
theorem dX7_learn_40 : decode cX7_learn 40 = .ok (.goto (-22), 3) := by decide +kernel
theorem dX7_learn_43 : decode cX7_learn 43 = .ok (.return_, 1) := by decide +kernel
theorem dX7_price_0 : decode cX7_price 0 = .ok (.aload_n 0, 1) := by decide +kernel
theorem dX7_price_1 : decode cX7_price 1 = .ok (.getfield 42, 3) := by decide +kernel
theorem dX7_price_4 : decode cX7_price 4 = .ok (.ireturn, 1) := by decide +kernel
theorem dX7_brings_0 : decode cX7_brings 0 = .ok (.aload_n 0, 1) := by decide +kernel
theorem dX7_brings_1 : decode cX7_brings 1 = .ok (.getfield 45, 3) := by decide +kernel
theorem dX7_brings_4 : decode cX7_brings 4 = .ok (.ireturn, 1) := by decide +kernel
theorem dX7_choose_0 : decode cX7_choose 0 = .ok (.aload_n 0, 1) := by decide +kernel
theorem dX7_choose_1 : decode cX7_choose 1 = .ok (.getfield 20, 3) := by decide +kernel
theorem dX7_choose_4 : decode cX7_choose 4 = .ok (.iload_n 1, 1) := by decide +kernel
theorem dX7_choose_5 : decode cX7_choose 5 = .ok (.iconst 1, 1) := by decide +kernel
theorem dX7_choose_6 : decode cX7_choose 6 = .ok (.isub, 1) := by decide +kernel
theorem dX7_choose_7 : decode cX7_choose 7 = .ok (.invokevirtual 48, 3) := by decide +kernel
theorem dX7_choose_10 : decode cX7_choose 10 = .ok (.istore_n 3, 1) := by decide +kernel
theorem dX7_choose_11 : decode cX7_choose 11 = .ok (.iconst 0, 1) := by decide +kernel
theorem dX7_choose_12 : decode cX7_choose 12 = .ok (.istore 4, 2) := by decide +kernel
theorem dX7_choose_14 : decode cX7_choose 14 = .ok (.iload_n 1, 1) := by decide +kernel
theorem dX7_choose_15 : decode cX7_choose 15 = .ok (.istore 5, 2) := by decide +kernel
theorem dX7_choose_17 : decode cX7_choose 17 = .ok (.iload 5, 2) := by decide +kernel
theorem dX7_choose_19 : decode cX7_choose 19 = .ok (.iload_n 2, 1) := by decide +kernel
theorem dX7_choose_20 : decode cX7_choose 20 = .ok (.if_icmp .gt 79, 3) := by decide +kernel
theorem dX7_choose_23 : decode cX7_choose 23 = .ok (.aload_n 0, 1) := by decide +kernel
theorem dX7_choose_24 : decode cX7_choose 24 = .ok (.getfield 20, 3) := by decide +kernel
theorem dX7_choose_27 : decode cX7_choose 27 = .ok (.iload 5, 2) := by decide +kernel
theorem dX7_choose_29 : decode cX7_choose 29 = .ok (.i2l, 1) := by decide +kernel
theorem dX7_choose_30 : decode cX7_choose 30 = .ok (.invokevirtual 53, 3) := by decide +kernel
theorem dX7_choose_33 : decode cX7_choose 33 = .ok (.ifCond .eq 60, 3) := by decide +kernel
theorem dX7_choose_36 : decode cX7_choose 36 = .ok (.iinc 4 1, 3) := by decide +kernel
theorem dX7_choose_39 : decode cX7_choose 39 = .ok (.aload_n 0, 1) := by decide +kernel
theorem dX7_choose_40 : decode cX7_choose 40 = .ok (.iload 5, 2) := by decide +kernel
theorem dX7_choose_42 : decode cX7_choose 42 = .ok (.iload_n 3, 1) := by decide +kernel
theorem dX7_choose_43 : decode cX7_choose 43 = .ok (.bipush (-2), 2) := by decide +kernel
theorem dX7_choose_45 : decode cX7_choose 45 = .ok (.if_icmp .ne 7, 3) := by decide +kernel
theorem dX7_choose_48 : decode cX7_choose 48 = .ok (.iconst 0, 1) := by decide +kernel
theorem dX7_choose_49 : decode cX7_choose 49 = .ok (.goto 7, 3) := by decide +kernel
theorem dX7_choose_52 : decode cX7_choose 52 = .ok (.iload 5, 2) := by decide +kernel
theorem dX7_choose_54 : decode cX7_choose 54 = .ok (.iload_n 3, 1) := by decide +kernel
theorem dX7_choose_55 : decode cX7_choose 55 = .ok (.isub, 1) := by decide +kernel
theorem dX7_choose_56 : decode cX7_choose 56 = .ok (.iload 4, 2) := by decide +kernel
theorem dX7_choose_58 : decode cX7_choose 58 = .ok (.invokevirtual 57, 3) := by decide +kernel
theorem dX7_choose_61 : decode cX7_choose 61 = .ok (.istore 6, 2) := by decide +kernel
theorem dX7_choose_63 : decode cX7_choose 63 = .ok (.iload 4, 2) := by decide +kernel
theorem dX7_choose_65 : decode cX7_choose 65 = .ok (.iconst 1, 1) := by decide +kernel
theorem dX7_choose_66 : decode cX7_choose 66 = .ok (.if_icmp .eq 12, 3) := by decide +kernel
theorem dX7_choose_69 : decode cX7_choose 69 = .ok (.iload 6, 2) := by decide +kernel
theorem dX7_choose_71 : decode cX7_choose 71 = .ok (.aload_n 0, 1) := by decide +kernel
theorem dX7_choose_72 : decode cX7_choose 72 = .ok (.getfield 45, 3) := by decide +kernel
theorem dX7_choose_75 : decode cX7_choose 75 = .ok (.if_icmp .le 15, 3) := by decide +kernel
theorem dX7_choose_78 : decode cX7_choose 78 = .ok (.aload_n 0, 1) := by decide +kernel
theorem dX7_choose_79 : decode cX7_choose 79 = .ok (.iload 5, 2) := by decide +kernel
theorem dX7_choose_81 : decode cX7_choose 81 = .ok (.putfield 42, 3) := by decide +kernel
theorem dX7_choose_84 : decode cX7_choose 84 = .ok (.aload_n 0, 1) := by decide +kernel
theorem dX7_choose_85 : decode cX7_choose 85 = .ok (.iload 6, 2) := by decide +kernel
theorem dX7_choose_87 : decode cX7_choose 87 = .ok (.putfield 45, 3) := by decide +kernel
theorem dX7_choose_90 : decode cX7_choose 90 = .ok (.iload 5, 2) := by decide +kernel
theorem dX7_choose_92 : decode cX7_choose 92 = .ok (.istore_n 3, 1) := by decide +kernel
theorem dX7_choose_93 : decode cX7_choose 93 = .ok (.iinc 5 1, 3) := by decide +kernel
theorem dX7_choose_96 : decode cX7_choose 96 = .ok (.goto (-79), 3) := by decide +kernel
theorem dX7_choose_99 : decode cX7_choose 99 = .ok (.iload 4, 2) := by decide +kernel
theorem dX7_choose_101 : decode cX7_choose 101 = .ok (.ifCond .le 7, 3) := by decide +kernel
theorem dX7_choose_104 : decode cX7_choose 104 = .ok (.iconst 1, 1) := by decide +kernel
theorem dX7_choose_105 : decode cX7_choose 105 = .ok (.goto 4, 3) := by decide +kernel
theorem dX7_choose_108 : decode cX7_choose 108 = .ok (.iconst 0, 1) := by decide +kernel
theorem dX7_choose_109 : decode cX7_choose 109 = .ok (.ireturn, 1) := by decide +kernel
theorem dX7_workOut_0 : decode cX7_workOut 0 = .ok (.aload_n 0, 1) := by decide +kernel
theorem dX7_workOut_1 : decode cX7_workOut 1 = .ok (.iconst 0, 1) := by decide +kernel
theorem dX7_workOut_2 : decode cX7_workOut 2 = .ok (.putfield 61, 3) := by decide +kernel
theorem dX7_workOut_5 : decode cX7_workOut 5 = .ok (.iconst 1, 1) := by decide +kernel
theorem dX7_workOut_6 : decode cX7_workOut 6 = .ok (.istore 4, 2) := by decide +kernel
theorem dX7_workOut_8 : decode cX7_workOut 8 = .ok (.iconst 0, 1) := by decide +kernel
theorem dX7_workOut_9 : decode cX7_workOut 9 = .ok (.istore 5, 2) := by decide +kernel
theorem dX7_workOut_11 : decode cX7_workOut 11 = .ok (.iload 5, 2) := by decide +kernel
theorem dX7_workOut_13 : decode cX7_workOut 13 = .ok (.aload_n 0, 1) := by decide +kernel
theorem dX7_workOut_14 : decode cX7_workOut 14 = .ok (.getfield 24, 3) := by decide +kernel
theorem dX7_workOut_17 : decode cX7_workOut 17 = .ok (.if_icmp .ge 94, 3) := by decide +kernel
theorem dX7_workOut_20 : decode cX7_workOut 20 = .ok (.aload_n 0, 1) := by decide +kernel
theorem dX7_workOut_21 : decode cX7_workOut 21 = .ok (.getfield 11, 3) := by decide +kernel
theorem dX7_workOut_24 : decode cX7_workOut 24 = .ok (.iload 5, 2) := by decide +kernel
theorem dX7_workOut_26 : decode cX7_workOut 26 = .ok (.iaload, 1) := by decide +kernel
theorem dX7_workOut_27 : decode cX7_workOut 27 = .ok (.istore 6, 2) := by decide +kernel
theorem dX7_workOut_29 : decode cX7_workOut 29 = .ok (.iload 6, 2) := by decide +kernel
theorem dX7_workOut_31 : decode cX7_workOut 31 = .ok (.ifCond .lt 12, 3) := by decide +kernel
theorem dX7_workOut_34 : decode cX7_workOut 34 = .ok (.aload_n 0, 1) := by decide +kernel
theorem dX7_workOut_35 : decode cX7_workOut 35 = .ok (.iload 6, 2) := by decide +kernel
theorem dX7_workOut_37 : decode cX7_workOut 37 = .ok (.invokevirtual 64, 3) := by decide +kernel
theorem dX7_workOut_40 : decode cX7_workOut 40 = .ok (.goto 65, 3) := by decide +kernel
theorem dX7_workOut_43 : decode cX7_workOut 43 = .ok (.iload 6, 2) := by decide +kernel
theorem dX7_workOut_45 : decode cX7_workOut 45 = .ok (.bipush (-63), 2) := by decide +kernel
theorem dX7_workOut_47 : decode cX7_workOut 47 = .ok (.if_icmp .ne 20, 3) := by decide +kernel
theorem dX7_workOut_50 : decode cX7_workOut 50 = .ok (.aload_n 0, 1) := by decide +kernel
theorem dX7_workOut_51 : decode cX7_workOut 51 = .ok (.invokevirtual 68, 3) := by decide +kernel
theorem dX7_workOut_54 : decode cX7_workOut 54 = .ok (.ifCond .eq 7, 3) := by decide +kernel
theorem dX7_workOut_57 : decode cX7_workOut 57 = .ok (.iconst 1, 1) := by decide +kernel
theorem dX7_workOut_58 : decode cX7_workOut 58 = .ok (.goto 4, 3) := by decide +kernel
theorem dX7_workOut_61 : decode cX7_workOut 61 = .ok (.iconst 0, 1) := by decide +kernel
theorem dX7_workOut_62 : decode cX7_workOut 62 = .ok (.istore 4, 2) := by decide +kernel
theorem dX7_workOut_64 : decode cX7_workOut 64 = .ok (.goto 41, 3) := by decide +kernel
theorem dX7_workOut_67 : decode cX7_workOut 67 = .ok (.iload 6, 2) := by decide +kernel
theorem dX7_workOut_69 : decode cX7_workOut 69 = .ok (.bipush (-59), 2) := by decide +kernel
theorem dX7_workOut_71 : decode cX7_workOut 71 = .ok (.if_icmp .eq 16, 3) := by decide +kernel
theorem dX7_workOut_74 : decode cX7_workOut 74 = .ok (.aload_n 0, 1) := by decide +kernel
theorem dX7_workOut_75 : decode cX7_workOut 75 = .ok (.iload 6, 2) := by decide +kernel
theorem dX7_workOut_77 : decode cX7_workOut 77 = .ok (.ineg, 1) := by decide +kernel
theorem dX7_workOut_78 : decode cX7_workOut 78 = .ok (.iload_n 1, 1) := by decide +kernel
theorem dX7_workOut_79 : decode cX7_workOut 79 = .ok (.iload_n 2, 1) := by decide +kernel
theorem dX7_workOut_80 : decode cX7_workOut 80 = .ok (.iload_n 3, 1) := by decide +kernel
theorem dX7_workOut_81 : decode cX7_workOut 81 = .ok (.invokevirtual 71, 3) := by decide +kernel
theorem dX7_workOut_84 : decode cX7_workOut 84 = .ok (.goto 21, 3) := by decide +kernel
theorem dX7_workOut_87 : decode cX7_workOut 87 = .ok (.iload 4, 2) := by decide +kernel
theorem dX7_workOut_89 : decode cX7_workOut 89 = .ok (.ifCond .eq 8, 3) := by decide +kernel
theorem dX7_workOut_92 : decode cX7_workOut 92 = .ok (.aload_n 0, 1) := by decide +kernel
theorem dX7_workOut_93 : decode cX7_workOut 93 = .ok (.invokevirtual 68, 3) := by decide +kernel
theorem dX7_workOut_96 : decode cX7_workOut 96 = .ok (.ireturn, 1) := by decide +kernel
theorem dX7_workOut_97 : decode cX7_workOut 97 = .ok (.iconst 1, 1) := by decide +kernel
theorem dX7_workOut_98 : decode cX7_workOut 98 = .ok (.istore 4, 2) := by decide +kernel
theorem dX7_workOut_100 : decode cX7_workOut 100 = .ok (.aload_n 0, 1) := by decide +kernel
theorem dX7_workOut_101 : decode cX7_workOut 101 = .ok (.iconst 0, 1) := by decide +kernel
theorem dX7_workOut_102 : decode cX7_workOut 102 = .ok (.putfield 61, 3) := by decide +kernel
theorem dX7_workOut_105 : decode cX7_workOut 105 = .ok (.iinc 5 1, 3) := by decide +kernel
theorem dX7_workOut_108 : decode cX7_workOut 108 = .ok (.goto (-97), 3) := by decide +kernel
theorem dX7_workOut_111 : decode cX7_workOut 111 = .ok (.iconst 0, 1) := by decide +kernel
theorem dX7_workOut_112 : decode cX7_workOut 112 = .ok (.ireturn, 1) := by decide +kernel
theorem dX7_takeStep_0 : decode cX7_takeStep 0 = .ok (.iload_n 1, 1) := by decide +kernel
theorem dX7_takeStep_1 : decode cX7_takeStep 1 = .ok (.lookupswitch 148 #[(33, 114), (103, 75), (104, 103), (110, 83), (112, 67), (116, 92), (126, 136)], 67) := by decide +kernel
theorem dX7_takeStep_68 : decode cX7_takeStep 68 = .ok (.aload_n 0, 1) := by decide +kernel
theorem dX7_takeStep_69 : decode cX7_takeStep 69 = .ok (.iload_n 2, 1) := by decide +kernel
theorem dX7_takeStep_70 : decode cX7_takeStep 70 = .ok (.invokevirtual 64, 3) := by decide +kernel
theorem dX7_takeStep_73 : decode cX7_takeStep 73 = .ok (.goto 100, 3) := by decide +kernel
theorem dX7_takeStep_76 : decode cX7_takeStep 76 = .ok (.aload_n 0, 1) := by decide +kernel
theorem dX7_takeStep_77 : decode cX7_takeStep 77 = .ok (.iload_n 3, 1) := by decide +kernel
theorem dX7_takeStep_78 : decode cX7_takeStep 78 = .ok (.invokevirtual 64, 3) := by decide +kernel
theorem dX7_takeStep_81 : decode cX7_takeStep 81 = .ok (.goto 92, 3) := by decide +kernel
theorem dX7_takeStep_84 : decode cX7_takeStep 84 = .ok (.aload_n 0, 1) := by decide +kernel
theorem dX7_takeStep_85 : decode cX7_takeStep 85 = .ok (.iload 4, 2) := by decide +kernel
theorem dX7_takeStep_87 : decode cX7_takeStep 87 = .ok (.invokevirtual 64, 3) := by decide +kernel
theorem dX7_takeStep_90 : decode cX7_takeStep 90 = .ok (.goto 83, 3) := by decide +kernel
theorem dX7_takeStep_93 : decode cX7_takeStep 93 = .ok (.aload_n 0, 1) := by decide +kernel
theorem dX7_takeStep_94 : decode cX7_takeStep 94 = .ok (.iload_n 2, 1) := by decide +kernel
theorem dX7_takeStep_95 : decode cX7_takeStep 95 = .ok (.bipush 10, 2) := by decide +kernel
theorem dX7_takeStep_97 : decode cX7_takeStep 97 = .ok (.irem, 1) := by decide +kernel
theorem dX7_takeStep_98 : decode cX7_takeStep 98 = .ok (.invokevirtual 64, 3) := by decide +kernel
theorem dX7_takeStep_101 : decode cX7_takeStep 101 = .ok (.goto 72, 3) := by decide +kernel
theorem dX7_takeStep_104 : decode cX7_takeStep 104 = .ok (.aload_n 0, 1) := by decide +kernel
theorem dX7_takeStep_105 : decode cX7_takeStep 105 = .ok (.iload_n 2, 1) := by decide +kernel
theorem dX7_takeStep_106 : decode cX7_takeStep 106 = .ok (.bipush 100, 2) := by decide +kernel
theorem dX7_takeStep_108 : decode cX7_takeStep 108 = .ok (.idiv, 1) := by decide +kernel
theorem dX7_takeStep_109 : decode cX7_takeStep 109 = .ok (.invokevirtual 64, 3) := by decide +kernel
theorem dX7_takeStep_112 : decode cX7_takeStep 112 = .ok (.goto 61, 3) := by decide +kernel
theorem dX7_takeStep_115 : decode cX7_takeStep 115 = .ok (.aload_n 0, 1) := by decide +kernel
theorem dX7_takeStep_116 : decode cX7_takeStep 116 = .ok (.aload_n 0, 1) := by decide +kernel
theorem dX7_takeStep_117 : decode cX7_takeStep 117 = .ok (.invokevirtual 68, 3) := by decide +kernel
theorem dX7_takeStep_120 : decode cX7_takeStep 120 = .ok (.ifCond .ne 7, 3) := by decide +kernel
theorem dX7_takeStep_123 : decode cX7_takeStep 123 = .ok (.iconst 1, 1) := by decide +kernel
theorem dX7_takeStep_124 : decode cX7_takeStep 124 = .ok (.goto 4, 3) := by decide +kernel
theorem dX7_takeStep_127 : decode cX7_takeStep 127 = .ok (.iconst 0, 1) := by decide +kernel
theorem dX7_takeStep_128 : decode cX7_takeStep 128 = .ok (.invokestatic 75, 3) := by decide +kernel
theorem dX7_takeStep_131 : decode cX7_takeStep 131 = .ok (.invokevirtual 64, 3) := by decide +kernel
theorem dX7_takeStep_134 : decode cX7_takeStep 134 = .ok (.goto 39, 3) := by decide +kernel
theorem dX7_takeStep_137 : decode cX7_takeStep 137 = .ok (.aload_n 0, 1) := by decide +kernel
theorem dX7_takeStep_138 : decode cX7_takeStep 138 = .ok (.aload_n 0, 1) := by decide +kernel
theorem dX7_takeStep_139 : decode cX7_takeStep 139 = .ok (.invokevirtual 68, 3) := by decide +kernel
theorem dX7_takeStep_142 : decode cX7_takeStep 142 = .ok (.ineg, 1) := by decide +kernel
theorem dX7_takeStep_143 : decode cX7_takeStep 143 = .ok (.invokevirtual 64, 3) := by decide +kernel
theorem dX7_takeStep_146 : decode cX7_takeStep 146 = .ok (.goto 27, 3) := by decide +kernel
theorem dX7_takeStep_149 : decode cX7_takeStep 149 = .ok (.aload_n 0, 1) := by decide +kernel
theorem dX7_takeStep_150 : decode cX7_takeStep 150 = .ok (.invokevirtual 68, 3) := by decide +kernel
theorem dX7_takeStep_153 : decode cX7_takeStep 153 = .ok (.istore 5, 2) := by decide +kernel
theorem dX7_takeStep_155 : decode cX7_takeStep 155 = .ok (.aload_n 0, 1) := by decide +kernel
theorem dX7_takeStep_156 : decode cX7_takeStep 156 = .ok (.invokevirtual 68, 3) := by decide +kernel
theorem dX7_takeStep_159 : decode cX7_takeStep 159 = .ok (.istore 6, 2) := by decide +kernel
theorem dX7_takeStep_161 : decode cX7_takeStep 161 = .ok (.aload_n 0, 1) := by decide +kernel
theorem dX7_takeStep_162 : decode cX7_takeStep 162 = .ok (.iload 6, 2) := by decide +kernel
theorem dX7_takeStep_164 : decode cX7_takeStep 164 = .ok (.iload_n 1, 1) := by decide +kernel
theorem dX7_takeStep_165 : decode cX7_takeStep 165 = .ok (.iload 5, 2) := by decide +kernel
theorem dX7_takeStep_167 : decode cX7_takeStep 167 = .ok (.invokestatic 79, 3) := by decide +kernel
theorem dX7_takeStep_170 : decode cX7_takeStep 170 = .ok (.invokevirtual 64, 3) := by decide +kernel
theorem dX7_takeStep_173 : decode cX7_takeStep 173 = .ok (.return_, 1) := by decide +kernel
theorem dX7_joined_0 : decode cX7_joined 0 = .ok (.iload_n 1, 1) := by decide +kernel
theorem dX7_joined_1 : decode cX7_joined 1 = .ok (.lookupswitch 203 #[(37, 191), (38, 108), (42, 175), (43, 167), (45, 171), (47, 179), (60, 125), (61, 139), (62, 153), (124, 91)], 91) := by decide +kernel
theorem dX7_joined_92 : decode cX7_joined 92 = .ok (.iload_n 0, 1) := by decide +kernel
theorem dX7_joined_93 : decode cX7_joined 93 = .ok (.ifCond .ne 7, 3) := by decide +kernel
theorem dX7_joined_96 : decode cX7_joined 96 = .ok (.iload_n 2, 1) := by decide +kernel
theorem dX7_joined_97 : decode cX7_joined 97 = .ok (.ifCond .eq 7, 3) := by decide +kernel
theorem dX7_joined_100 : decode cX7_joined 100 = .ok (.iconst 1, 1) := by decide +kernel
theorem dX7_joined_101 : decode cX7_joined 101 = .ok (.goto 4, 3) := by decide +kernel
theorem dX7_joined_104 : decode cX7_joined 104 = .ok (.iconst 0, 1) := by decide +kernel
theorem dX7_joined_105 : decode cX7_joined 105 = .ok (.invokestatic 75, 3) := by decide +kernel
theorem dX7_joined_108 : decode cX7_joined 108 = .ok (.ireturn, 1) := by decide +kernel
theorem dX7_joined_109 : decode cX7_joined 109 = .ok (.iload_n 0, 1) := by decide +kernel
theorem dX7_joined_110 : decode cX7_joined 110 = .ok (.ifCond .eq 11, 3) := by decide +kernel
theorem dX7_joined_113 : decode cX7_joined 113 = .ok (.iload_n 2, 1) := by decide +kernel
theorem dX7_joined_114 : decode cX7_joined 114 = .ok (.ifCond .eq 7, 3) := by decide +kernel
theorem dX7_joined_117 : decode cX7_joined 117 = .ok (.iconst 1, 1) := by decide +kernel
theorem dX7_joined_118 : decode cX7_joined 118 = .ok (.goto 4, 3) := by decide +kernel
theorem dX7_joined_121 : decode cX7_joined 121 = .ok (.iconst 0, 1) := by decide +kernel
theorem dX7_joined_122 : decode cX7_joined 122 = .ok (.invokestatic 75, 3) := by decide +kernel
theorem dX7_joined_125 : decode cX7_joined 125 = .ok (.ireturn, 1) := by decide +kernel
theorem dX7_joined_126 : decode cX7_joined 126 = .ok (.iload_n 0, 1) := by decide +kernel
theorem dX7_joined_127 : decode cX7_joined 127 = .ok (.iload_n 2, 1) := by decide +kernel
theorem dX7_joined_128 : decode cX7_joined 128 = .ok (.if_icmp .ge 7, 3) := by decide +kernel
theorem dX7_joined_131 : decode cX7_joined 131 = .ok (.iconst 1, 1) := by decide +kernel
theorem dX7_joined_132 : decode cX7_joined 132 = .ok (.goto 4, 3) := by decide +kernel
theorem dX7_joined_135 : decode cX7_joined 135 = .ok (.iconst 0, 1) := by decide +kernel
theorem dX7_joined_136 : decode cX7_joined 136 = .ok (.invokestatic 75, 3) := by decide +kernel
theorem dX7_joined_139 : decode cX7_joined 139 = .ok (.ireturn, 1) := by decide +kernel
theorem dX7_joined_140 : decode cX7_joined 140 = .ok (.iload_n 0, 1) := by decide +kernel
theorem dX7_joined_141 : decode cX7_joined 141 = .ok (.iload_n 2, 1) := by decide +kernel
theorem dX7_joined_142 : decode cX7_joined 142 = .ok (.if_icmp .ne 7, 3) := by decide +kernel
theorem dX7_joined_145 : decode cX7_joined 145 = .ok (.iconst 1, 1) := by decide +kernel
theorem dX7_joined_146 : decode cX7_joined 146 = .ok (.goto 4, 3) := by decide +kernel
theorem dX7_joined_149 : decode cX7_joined 149 = .ok (.iconst 0, 1) := by decide +kernel
theorem dX7_joined_150 : decode cX7_joined 150 = .ok (.invokestatic 75, 3) := by decide +kernel
theorem dX7_joined_153 : decode cX7_joined 153 = .ok (.ireturn, 1) := by decide +kernel
theorem dX7_joined_154 : decode cX7_joined 154 = .ok (.iload_n 0, 1) := by decide +kernel
theorem dX7_joined_155 : decode cX7_joined 155 = .ok (.iload_n 2, 1) := by decide +kernel
theorem dX7_joined_156 : decode cX7_joined 156 = .ok (.if_icmp .le 7, 3) := by decide +kernel
theorem dX7_joined_159 : decode cX7_joined 159 = .ok (.iconst 1, 1) := by decide +kernel
theorem dX7_joined_160 : decode cX7_joined 160 = .ok (.goto 4, 3) := by decide +kernel
theorem dX7_joined_163 : decode cX7_joined 163 = .ok (.iconst 0, 1) := by decide +kernel
theorem dX7_joined_164 : decode cX7_joined 164 = .ok (.invokestatic 75, 3) := by decide +kernel
theorem dX7_joined_167 : decode cX7_joined 167 = .ok (.ireturn, 1) := by decide +kernel
theorem dX7_joined_168 : decode cX7_joined 168 = .ok (.iload_n 0, 1) := by decide +kernel
theorem dX7_joined_169 : decode cX7_joined 169 = .ok (.iload_n 2, 1) := by decide +kernel
theorem dX7_joined_170 : decode cX7_joined 170 = .ok (.iadd, 1) := by decide +kernel
theorem dX7_joined_171 : decode cX7_joined 171 = .ok (.ireturn, 1) := by decide +kernel
theorem dX7_joined_172 : decode cX7_joined 172 = .ok (.iload_n 0, 1) := by decide +kernel
theorem dX7_joined_173 : decode cX7_joined 173 = .ok (.iload_n 2, 1) := by decide +kernel
theorem dX7_joined_174 : decode cX7_joined 174 = .ok (.isub, 1) := by decide +kernel
theorem dX7_joined_175 : decode cX7_joined 175 = .ok (.ireturn, 1) := by decide +kernel
theorem dX7_joined_176 : decode cX7_joined 176 = .ok (.iload_n 0, 1) := by decide +kernel
theorem dX7_joined_177 : decode cX7_joined 177 = .ok (.iload_n 2, 1) := by decide +kernel
theorem dX7_joined_178 : decode cX7_joined 178 = .ok (.imul, 1) := by decide +kernel
theorem dX7_joined_179 : decode cX7_joined 179 = .ok (.ireturn, 1) := by decide +kernel
theorem dX7_joined_180 : decode cX7_joined 180 = .ok (.iload_n 2, 1) := by decide +kernel
theorem dX7_joined_181 : decode cX7_joined 181 = .ok (.ifCond .ne 7, 3) := by decide +kernel
theorem dX7_joined_184 : decode cX7_joined 184 = .ok (.iconst 0, 1) := by decide +kernel
theorem dX7_joined_185 : decode cX7_joined 185 = .ok (.goto 6, 3) := by decide +kernel
theorem dX7_joined_188 : decode cX7_joined 188 = .ok (.iload_n 0, 1) := by decide +kernel
theorem dX7_joined_189 : decode cX7_joined 189 = .ok (.iload_n 2, 1) := by decide +kernel
theorem dX7_joined_190 : decode cX7_joined 190 = .ok (.idiv, 1) := by decide +kernel
theorem dX7_joined_191 : decode cX7_joined 191 = .ok (.ireturn, 1) := by decide +kernel
theorem dX7_joined_192 : decode cX7_joined 192 = .ok (.iload_n 2, 1) := by decide +kernel
theorem dX7_joined_193 : decode cX7_joined 193 = .ok (.ifCond .ne 7, 3) := by decide +kernel
theorem dX7_joined_196 : decode cX7_joined 196 = .ok (.iconst 0, 1) := by decide +kernel
theorem dX7_joined_197 : decode cX7_joined 197 = .ok (.goto 6, 3) := by decide +kernel
theorem dX7_joined_200 : decode cX7_joined 200 = .ok (.iload_n 0, 1) := by decide +kernel
theorem dX7_joined_201 : decode cX7_joined 201 = .ok (.iload_n 2, 1) := by decide +kernel
theorem dX7_joined_202 : decode cX7_joined 202 = .ok (.irem, 1) := by decide +kernel
theorem dX7_joined_203 : decode cX7_joined 203 = .ok (.ireturn, 1) := by decide +kernel
theorem dX7_joined_204 : decode cX7_joined 204 = .ok (.iconst 0, 1) := by decide +kernel
theorem dX7_joined_205 : decode cX7_joined 205 = .ok (.ireturn, 1) := by decide +kernel
theorem dX7_oneIf_0 : decode cX7_oneIf 0 = .ok (.iload_n 0, 1) := by decide +kernel
theorem dX7_oneIf_1 : decode cX7_oneIf 1 = .ok (.ifCond .eq 7, 3) := by decide +kernel
theorem dX7_oneIf_4 : decode cX7_oneIf 4 = .ok (.iconst 1, 1) := by decide +kernel
theorem dX7_oneIf_5 : decode cX7_oneIf 5 = .ok (.goto 4, 3) := by decide +kernel
theorem dX7_oneIf_8 : decode cX7_oneIf 8 = .ok (.iconst 0, 1) := by decide +kernel
theorem dX7_oneIf_9 : decode cX7_oneIf 9 = .ok (.ireturn, 1) := by decide +kernel
theorem dX7_push_0 : decode cX7_push 0 = .ok (.aload_n 0, 1) := by decide +kernel
theorem dX7_push_1 : decode cX7_push 1 = .ok (.getfield 61, 3) := by decide +kernel
theorem dX7_push_4 : decode cX7_push 4 = .ok (.aload_n 0, 1) := by decide +kernel
theorem dX7_push_5 : decode cX7_push 5 = .ok (.getfield 17, 3) := by decide +kernel
theorem dX7_push_8 : decode cX7_push 8 = .ok (.arraylength, 1) := by decide +kernel
theorem dX7_push_9 : decode cX7_push 9 = .ok (.if_icmp .ge 23, 3) := by decide +kernel
theorem dX7_push_12 : decode cX7_push 12 = .ok (.aload_n 0, 1) := by decide +kernel
theorem dX7_push_13 : decode cX7_push 13 = .ok (.getfield 17, 3) := by decide +kernel
theorem dX7_push_16 : decode cX7_push 16 = .ok (.aload_n 0, 1) := by decide +kernel
theorem dX7_push_17 : decode cX7_push 17 = .ok (.getfield 61, 3) := by decide +kernel
theorem dX7_push_20 : decode cX7_push 20 = .ok (.iload_n 1, 1) := by decide +kernel
theorem dX7_push_21 : decode cX7_push 21 = .ok (.iastore, 1) := by decide +kernel
theorem dX7_push_22 : decode cX7_push 22 = .ok (.aload_n 0, 1) := by decide +kernel
theorem dX7_push_23 : decode cX7_push 23 = .ok (.dup, 1) := by decide +kernel
theorem dX7_push_24 : decode cX7_push 24 = .ok (.getfield 61, 3) := by decide +kernel
theorem dX7_push_27 : decode cX7_push 27 = .ok (.iconst 1, 1) := by decide +kernel
theorem dX7_push_28 : decode cX7_push 28 = .ok (.iadd, 1) := by decide +kernel
theorem dX7_push_29 : decode cX7_push 29 = .ok (.putfield 61, 3) := by decide +kernel
theorem dX7_push_32 : decode cX7_push 32 = .ok (.return_, 1) := by decide +kernel
theorem dX7_pop_0 : decode cX7_pop 0 = .ok (.aload_n 0, 1) := by decide +kernel
theorem dX7_pop_1 : decode cX7_pop 1 = .ok (.getfield 61, 3) := by decide +kernel
theorem dX7_pop_4 : decode cX7_pop 4 = .ok (.ifCond .ne 5, 3) := by decide +kernel
theorem dX7_pop_7 : decode cX7_pop 7 = .ok (.iconst 0, 1) := by decide +kernel
theorem dX7_pop_8 : decode cX7_pop 8 = .ok (.ireturn, 1) := by decide +kernel
theorem dX7_pop_9 : decode cX7_pop 9 = .ok (.aload_n 0, 1) := by decide +kernel
theorem dX7_pop_10 : decode cX7_pop 10 = .ok (.dup, 1) := by decide +kernel
theorem dX7_pop_11 : decode cX7_pop 11 = .ok (.getfield 61, 3) := by decide +kernel
theorem dX7_pop_14 : decode cX7_pop 14 = .ok (.iconst 1, 1) := by decide +kernel
theorem dX7_pop_15 : decode cX7_pop 15 = .ok (.isub, 1) := by decide +kernel
theorem dX7_pop_16 : decode cX7_pop 16 = .ok (.putfield 61, 3) := by decide +kernel
theorem dX7_pop_19 : decode cX7_pop 19 = .ok (.aload_n 0, 1) := by decide +kernel
theorem dX7_pop_20 : decode cX7_pop 20 = .ok (.getfield 17, 3) := by decide +kernel
theorem dX7_pop_23 : decode cX7_pop 23 = .ok (.aload_n 0, 1) := by decide +kernel
theorem dX7_pop_24 : decode cX7_pop 24 = .ok (.getfield 61, 3) := by decide +kernel
theorem dX7_pop_27 : decode cX7_pop 27 = .ok (.iaload, 1) := by decide +kernel
theorem dX7_pop_28 : decode cX7_pop 28 = .ok (.ireturn, 1) := by decide +kernel
theorem dX8_init_0 : decode cX8_init 0 = .ok (.aload_n 0, 1) := by decide +kernel
theorem dX8_init_1 : decode cX8_init 1 = .ok (.invokespecial 3, 3) := by decide +kernel
theorem dX8_init_4 : decode cX8_init 4 = .ok (.aload_n 0, 1) := by decide +kernel
theorem dX8_init_5 : decode cX8_init 5 = .ok (.bipush 6, 2) := by decide +kernel
theorem dX8_init_7 : decode cX8_init 7 = .ok (.newarray .int, 2) := by decide +kernel
theorem dX8_init_9 : decode cX8_init 9 = .ok (.dup, 1) := by decide +kernel
theorem dX8_init_10 : decode cX8_init 10 = .ok (.iconst 0, 1) := by decide +kernel
theorem dX8_init_11 : decode cX8_init 11 = .ok (.iconst (-1), 1) := by decide +kernel
theorem dX8_init_12 : decode cX8_init 12 = .ok (.iastore, 1) := by decide +kernel
theorem dX8_init_13 : decode cX8_init 13 = .ok (.dup, 1) := by decide +kernel
theorem dX8_init_14 : decode cX8_init 14 = .ok (.iconst 1, 1) := by decide +kernel
theorem dX8_init_15 : decode cX8_init 15 = .ok (.iconst (-1), 1) := by decide +kernel
theorem dX8_init_16 : decode cX8_init 16 = .ok (.iastore, 1) := by decide +kernel
theorem dX8_init_17 : decode cX8_init 17 = .ok (.dup, 1) := by decide +kernel
theorem dX8_init_18 : decode cX8_init 18 = .ok (.iconst 2, 1) := by decide +kernel
theorem dX8_init_19 : decode cX8_init 19 = .ok (.iconst (-1), 1) := by decide +kernel
theorem dX8_init_20 : decode cX8_init 20 = .ok (.iastore, 1) := by decide +kernel
theorem dX8_init_21 : decode cX8_init 21 = .ok (.dup, 1) := by decide +kernel
theorem dX8_init_22 : decode cX8_init 22 = .ok (.iconst 3, 1) := by decide +kernel
theorem dX8_init_23 : decode cX8_init 23 = .ok (.iconst (-1), 1) := by decide +kernel
theorem dX8_init_24 : decode cX8_init 24 = .ok (.iastore, 1) := by decide +kernel
theorem dX8_init_25 : decode cX8_init 25 = .ok (.dup, 1) := by decide +kernel
theorem dX8_init_26 : decode cX8_init 26 = .ok (.iconst 4, 1) := by decide +kernel
theorem dX8_init_27 : decode cX8_init 27 = .ok (.iconst (-1), 1) := by decide +kernel
theorem dX8_init_28 : decode cX8_init 28 = .ok (.iastore, 1) := by decide +kernel
theorem dX8_init_29 : decode cX8_init 29 = .ok (.dup, 1) := by decide +kernel
theorem dX8_init_30 : decode cX8_init 30 = .ok (.iconst 5, 1) := by decide +kernel
theorem dX8_init_31 : decode cX8_init 31 = .ok (.iconst (-1), 1) := by decide +kernel
theorem dX8_init_32 : decode cX8_init 32 = .ok (.iastore, 1) := by decide +kernel
theorem dX8_init_33 : decode cX8_init 33 = .ok (.putfield 11, 3) := by decide +kernel
theorem dX8_init_36 : decode cX8_init 36 = .ok (.aload_n 0, 1) := by decide +kernel
theorem dX8_init_37 : decode cX8_init 37 = .ok (.bipush 6, 2) := by decide +kernel
theorem dX8_init_39 : decode cX8_init 39 = .ok (.newarray .int, 2) := by decide +kernel
theorem dX8_init_41 : decode cX8_init 41 = .ok (.putfield 15, 3) := by decide +kernel
theorem dX8_init_44 : decode cX8_init 44 = .ok (.aload_n 0, 1) := by decide +kernel
theorem dX8_init_45 : decode cX8_init 45 = .ok (.bipush 6, 2) := by decide +kernel
theorem dX8_init_47 : decode cX8_init 47 = .ok (.newarray .int, 2) := by decide +kernel
theorem dX8_init_49 : decode cX8_init 49 = .ok (.putfield 18, 3) := by decide +kernel
theorem dX8_init_52 : decode cX8_init 52 = .ok (.aload_n 0, 1) := by decide +kernel
theorem dX8_init_53 : decode cX8_init 53 = .ok (.bipush 6, 2) := by decide +kernel
theorem dX8_init_55 : decode cX8_init 55 = .ok (.bipush 60, 2) := by decide +kernel
theorem dX8_init_57 : decode cX8_init 57 = .ok (.multianewarray 21 2, 4) := by decide +kernel
theorem dX8_init_61 : decode cX8_init 61 = .ok (.putfield 23, 3) := by decide +kernel
theorem dX8_init_64 : decode cX8_init 64 = .ok (.aload_n 0, 1) := by decide +kernel
theorem dX8_init_65 : decode cX8_init 65 = .ok (.aload_n 1, 1) := by decide +kernel
theorem dX8_init_66 : decode cX8_init 66 = .ok (.putfield 26, 3) := by decide +kernel
theorem dX8_init_69 : decode cX8_init 69 = .ok (.aload_n 0, 1) := by decide +kernel
theorem dX8_init_70 : decode cX8_init 70 = .ok (.aload_n 2, 1) := by decide +kernel
theorem dX8_init_71 : decode cX8_init 71 = .ok (.putfield 30, 3) := by decide +kernel
theorem dX8_init_74 : decode cX8_init 74 = .ok (.return_, 1) := by decide +kernel
theorem dX8_isShelf_0 : decode cX8_isShelf 0 = .ok (.iload_n 0, 1) := by decide +kernel
theorem dX8_isShelf_1 : decode cX8_isShelf 1 = .ok (.iconst 0, 1) := by decide +kernel
theorem dX8_isShelf_2 : decode cX8_isShelf 2 = .ok (.iconst 5, 1) := by decide +kernel
theorem dX8_isShelf_3 : decode cX8_isShelf 3 = .ok (.invokestatic 34, 3) := by decide +kernel
theorem dX8_isShelf_6 : decode cX8_isShelf 6 = .ok (.ireturn, 1) := by decide +kernel
theorem dX8_isRow_0 : decode cX8_isRow 0 = .ok (.aload_n 0, 1) := by decide +kernel
theorem dX8_isRow_1 : decode cX8_isRow 1 = .ok (.getfield 11, 3) := by decide +kernel
theorem dX8_isRow_4 : decode cX8_isRow 4 = .ok (.iload_n 1, 1) := by decide +kernel
theorem dX8_isRow_5 : decode cX8_isRow 5 = .ok (.iaload, 1) := by decide +kernel
theorem dX8_isRow_6 : decode cX8_isRow 6 = .ok (.iconst (-1), 1) := by decide +kernel
theorem dX8_isRow_7 : decode cX8_isRow 7 = .ok (.if_icmp .eq 17, 3) := by decide +kernel
theorem dX8_isRow_10 : decode cX8_isRow 10 = .ok (.aload_n 0, 1) := by decide +kernel
theorem dX8_isRow_11 : decode cX8_isRow 11 = .ok (.getfield 11, 3) := by decide +kernel
theorem dX8_isRow_14 : decode cX8_isRow 14 = .ok (.iload_n 1, 1) := by decide +kernel
theorem dX8_isRow_15 : decode cX8_isRow 15 = .ok (.iaload, 1) := by decide +kernel
theorem dX8_isRow_16 : decode cX8_isRow 16 = .ok (.iconst 5, 1) := by decide +kernel
theorem dX8_isRow_17 : decode cX8_isRow 17 = .ok (.if_icmp .eq 7, 3) := by decide +kernel
theorem dX8_isRow_20 : decode cX8_isRow 20 = .ok (.iconst 1, 1) := by decide +kernel
theorem dX8_isRow_21 : decode cX8_isRow 21 = .ok (.goto 4, 3) := by decide +kernel
theorem dX8_isRow_24 : decode cX8_isRow 24 = .ok (.iconst 0, 1) := by decide +kernel
theorem dX8_isRow_25 : decode cX8_isRow 25 = .ok (.ireturn, 1) := by decide +kernel
theorem dX8_holdPayment_0 : decode cX8_holdPayment 0 = .ok (.aload_n 0, 1) := by decide +kernel
theorem dX8_holdPayment_1 : decode cX8_holdPayment 1 = .ok (.getfield 11, 3) := by decide +kernel
theorem dX8_holdPayment_4 : decode cX8_holdPayment 4 = .ok (.iload_n 1, 1) := by decide +kernel
theorem dX8_holdPayment_5 : decode cX8_holdPayment 5 = .ok (.iload_n 2, 1) := by decide +kernel
theorem dX8_holdPayment_6 : decode cX8_holdPayment 6 = .ok (.ifCond .ge 7, 3) := by decide +kernel
theorem dX8_holdPayment_9 : decode cX8_holdPayment 9 = .ok (.iconst (-1), 1) := by decide +kernel
theorem dX8_holdPayment_10 : decode cX8_holdPayment 10 = .ok (.goto 4, 3) := by decide +kernel
theorem dX8_holdPayment_13 : decode cX8_holdPayment 13 = .ok (.iconst 5, 1) := by decide +kernel
theorem dX8_holdPayment_14 : decode cX8_holdPayment 14 = .ok (.iastore, 1) := by decide +kernel
theorem dX8_holdPayment_15 : decode cX8_holdPayment 15 = .ok (.aload_n 0, 1) := by decide +kernel
theorem dX8_holdPayment_16 : decode cX8_holdPayment 16 = .ok (.getfield 15, 3) := by decide +kernel
theorem dX8_holdPayment_19 : decode cX8_holdPayment 19 = .ok (.iload_n 1, 1) := by decide +kernel
theorem dX8_holdPayment_20 : decode cX8_holdPayment 20 = .ok (.iload_n 2, 1) := by decide +kernel
theorem dX8_holdPayment_21 : decode cX8_holdPayment 21 = .ok (.iastore, 1) := by decide +kernel
theorem dX8_holdPayment_22 : decode cX8_holdPayment 22 = .ok (.iconst 1, 1) := by decide +kernel
theorem dX8_holdPayment_23 : decode cX8_holdPayment 23 = .ok (.ireturn, 1) := by decide +kernel
theorem dX8_holdRow_0 : decode cX8_holdRow 0 = .ok (.aload_n 0, 1) := by decide +kernel
theorem dX8_holdRow_1 : decode cX8_holdRow 1 = .ok (.getfield 11, 3) := by decide +kernel
theorem dX8_holdRow_4 : decode cX8_holdRow 4 = .ok (.iload_n 1, 1) := by decide +kernel
theorem dX8_holdRow_5 : decode cX8_holdRow 5 = .ok (.iload_n 2, 1) := by decide +kernel
theorem dX8_holdRow_6 : decode cX8_holdRow 6 = .ok (.iastore, 1) := by decide +kernel
theorem dX8_holdRow_7 : decode cX8_holdRow 7 = .ok (.aload_n 0, 1) := by decide +kernel
theorem dX8_holdRow_8 : decode cX8_holdRow 8 = .ok (.getfield 18, 3) := by decide +kernel
theorem dX8_holdRow_11 : decode cX8_holdRow 11 = .ok (.iload_n 1, 1) := by decide +kernel
theorem dX8_holdRow_12 : decode cX8_holdRow 12 = .ok (.iload_n 3, 1) := by decide +kernel
theorem dX8_holdRow_13 : decode cX8_holdRow 13 = .ok (.iastore, 1) := by decide +kernel
theorem dX8_holdRow_14 : decode cX8_holdRow 14 = .ok (.aload_n 0, 1) := by decide +kernel
theorem dX8_holdRow_15 : decode cX8_holdRow 15 = .ok (.getfield 23, 3) := by decide +kernel
theorem dX8_holdRow_18 : decode cX8_holdRow 18 = .ok (.iload_n 1, 1) := by decide +kernel
theorem dX8_holdRow_19 : decode cX8_holdRow 19 = .ok (.aaload, 1) := by decide +kernel
theorem dX8_holdRow_20 : decode cX8_holdRow 20 = .ok (.lconst 0, 1) := by decide +kernel
theorem dX8_holdRow_21 : decode cX8_holdRow 21 = .ok (.invokestatic 38, 3) := by decide +kernel
theorem dX8_holdRow_24 : decode cX8_holdRow 24 = .ok (.iconst 1, 1) := by decide +kernel
theorem dX8_holdRow_25 : decode cX8_holdRow 25 = .ok (.ireturn, 1) := by decide +kernel
theorem dX8_refusal_0 : decode cX8_refusal 0 = .ok (.aload_n 0, 1) := by decide +kernel
theorem dX8_refusal_1 : decode cX8_refusal 1 = .ok (.iload_n 1, 1) := by decide +kernel
theorem dX8_refusal_2 : decode cX8_refusal 2 = .ok (.invokevirtual 44, 3) := by decide +kernel
theorem dX8_refusal_5 : decode cX8_refusal 5 = .ok (.ifCond .ne 21, 3) := by decide +kernel
theorem dX8_refusal_8 : decode cX8_refusal 8 = .ok (.aload_n 0, 1) := by decide +kernel
theorem dX8_refusal_9 : decode cX8_refusal 9 = .ok (.getfield 11, 3) := by decide +kernel
theorem dX8_refusal_12 : decode cX8_refusal 12 = .ok (.iload_n 1, 1) := by decide +kernel
theorem dX8_refusal_13 : decode cX8_refusal 13 = .ok (.iaload, 1) := by decide +kernel
theorem dX8_refusal_14 : decode cX8_refusal 14 = .ok (.iconst (-1), 1) := by decide +kernel
theorem dX8_refusal_15 : decode cX8_refusal 15 = .ok (.if_icmp .ne 8, 3) := by decide +kernel
theorem dX8_refusal_18 : decode cX8_refusal 18 = .ok (.bipush (-11), 2) := by decide +kernel
theorem dX8_refusal_20 : decode cX8_refusal 20 = .ok (.goto 5, 3) := by decide +kernel
theorem dX8_refusal_23 : decode cX8_refusal 23 = .ok (.bipush (-12), 2) := by decide +kernel
theorem dX8_refusal_25 : decode cX8_refusal 25 = .ok (.ireturn, 1) := by decide +kernel
theorem dX8_refusal_26 : decode cX8_refusal 26 = .ok (.iload_n 2, 1) := by decide +kernel
theorem dX8_refusal_27 : decode cX8_refusal 27 = .ok (.iconst 0, 1) := by decide +kernel
theorem dX8_refusal_28 : decode cX8_refusal 28 = .ok (.aload_n 0, 1) := by decide +kernel
theorem dX8_refusal_29 : decode cX8_refusal 29 = .ok (.getfield 18, 3) := by decide +kernel
theorem dX8_refusal_32 : decode cX8_refusal 32 = .ok (.iload_n 1, 1) := by decide +kernel
theorem dX8_refusal_33 : decode cX8_refusal 33 = .ok (.iaload, 1) := by decide +kernel
theorem dX8_refusal_34 : decode cX8_refusal 34 = .ok (.iconst 1, 1) := by decide +kernel
theorem dX8_refusal_35 : decode cX8_refusal 35 = .ok (.isub, 1) := by decide +kernel
theorem dX8_refusal_36 : decode cX8_refusal 36 = .ok (.invokestatic 34, 3) := by decide +kernel
theorem dX8_refusal_39 : decode cX8_refusal 39 = .ok (.ifCond .eq 7, 3) := by decide +kernel
theorem dX8_refusal_42 : decode cX8_refusal 42 = .ok (.iconst 0, 1) := by decide +kernel
theorem dX8_refusal_43 : decode cX8_refusal 43 = .ok (.goto 5, 3) := by decide +kernel
theorem dX8_refusal_46 : decode cX8_refusal 46 = .ok (.bipush (-13), 2) := by decide +kernel
theorem dX8_refusal_48 : decode cX8_refusal 48 = .ok (.ireturn, 1) := by decide +kernel
theorem dX8_write_0 : decode cX8_write 0 = .ok (.aload_n 0, 1) := by decide +kernel
theorem dX8_write_1 : decode cX8_write 1 = .ok (.iload_n 1, 1) := by decide +kernel
theorem dX8_write_2 : decode cX8_write 2 = .ok (.iload_n 2, 1) := by decide +kernel
theorem dX8_write_3 : decode cX8_write 3 = .ok (.invokevirtual 48, 3) := by decide +kernel
theorem dX8_write_6 : decode cX8_write 6 = .ok (.istore 5, 2) := by decide +kernel
theorem dX8_write_8 : decode cX8_write 8 = .ok (.iload 5, 2) := by decide +kernel
theorem dX8_write_10 : decode cX8_write 10 = .ok (.ifCond .eq 6, 3) := by decide +kernel
theorem dX8_write_13 : decode cX8_write 13 = .ok (.iload 5, 2) := by decide +kernel
theorem dX8_write_15 : decode cX8_write 15 = .ok (.ireturn, 1) := by decide +kernel
theorem dX8_write_16 : decode cX8_write 16 = .ok (.aload_n 0, 1) := by decide +kernel
theorem dX8_write_17 : decode cX8_write 17 = .ok (.getfield 23, 3) := by decide +kernel
theorem dX8_write_20 : decode cX8_write 20 = .ok (.iload_n 1, 1) := by decide +kernel
theorem dX8_write_21 : decode cX8_write 21 = .ok (.aaload, 1) := by decide +kernel
theorem dX8_write_22 : decode cX8_write 22 = .ok (.iload_n 2, 1) := by decide +kernel
theorem dX8_write_23 : decode cX8_write 23 = .ok (.aload_n 0, 1) := by decide +kernel
theorem dX8_write_24 : decode cX8_write 24 = .ok (.getfield 11, 3) := by decide +kernel
theorem dX8_write_27 : decode cX8_write 27 = .ok (.iload_n 1, 1) := by decide +kernel
theorem dX8_write_28 : decode cX8_write 28 = .ok (.iaload, 1) := by decide +kernel
theorem dX8_write_29 : decode cX8_write 29 = .ok (.lload_n 3, 1) := by decide +kernel
theorem dX8_write_30 : decode cX8_write 30 = .ok (.invokestatic 52, 3) := by decide +kernel
theorem dX8_write_33 : decode cX8_write 33 = .ok (.lastore, 1) := by decide +kernel
theorem dX8_write_34 : decode cX8_write 34 = .ok (.iconst 1, 1) := by decide +kernel
theorem dX8_write_35 : decode cX8_write 35 = .ok (.ireturn, 1) := by decide +kernel
theorem dX8_lowest_0 : decode cX8_lowest 0 = .ok (.iload_n 0, 1) := by decide +kernel
theorem dX8_lowest_1 : decode cX8_lowest 1 = .ok (.tableswitch 47 0 3 #[31, 36, 41, 45], 31) := by decide +kernel
theorem dX8_lowest_32 : decode cX8_lowest 32 = .ok (.lload_n 1, 1) := by decide +kernel
theorem dX8_lowest_33 : decode cX8_lowest 33 = .ok (.l2i, 1) := by decide +kernel
theorem dX8_lowest_34 : decode cX8_lowest 34 = .ok (.i2b, 1) := by decide +kernel
theorem dX8_lowest_35 : decode cX8_lowest 35 = .ok (.i2l, 1) := by decide +kernel
theorem dX8_lowest_36 : decode cX8_lowest 36 = .ok (.lreturn, 1) := by decide +kernel
theorem dX8_lowest_37 : decode cX8_lowest 37 = .ok (.lload_n 1, 1) := by decide +kernel
theorem dX8_lowest_38 : decode cX8_lowest 38 = .ok (.l2i, 1) := by decide +kernel
theorem dX8_lowest_39 : decode cX8_lowest 39 = .ok (.i2s, 1) := by decide +kernel
theorem dX8_lowest_40 : decode cX8_lowest 40 = .ok (.i2l, 1) := by decide +kernel
theorem dX8_lowest_41 : decode cX8_lowest 41 = .ok (.lreturn, 1) := by decide +kernel
theorem dX8_lowest_42 : decode cX8_lowest 42 = .ok (.lload_n 1, 1) := by decide +kernel
theorem dX8_lowest_43 : decode cX8_lowest 43 = .ok (.l2i, 1) := by decide +kernel
theorem dX8_lowest_44 : decode cX8_lowest 44 = .ok (.i2l, 1) := by decide +kernel
theorem dX8_lowest_45 : decode cX8_lowest 45 = .ok (.lreturn, 1) := by decide +kernel
theorem dX8_lowest_46 : decode cX8_lowest 46 = .ok (.lload_n 1, 1) := by decide +kernel
theorem dX8_lowest_47 : decode cX8_lowest 47 = .ok (.lreturn, 1) := by decide +kernel
theorem dX8_lowest_48 : decode cX8_lowest 48 = .ok (.lload_n 1, 1) := by decide +kernel
theorem dX8_lowest_49 : decode cX8_lowest 49 = .ok (.lconst 0, 1) := by decide +kernel
theorem dX8_lowest_50 : decode cX8_lowest 50 = .ok (.lcmp, 1) := by decide +kernel
theorem dX8_lowest_51 : decode cX8_lowest 51 = .ok (.ifCond .ne 7, 3) := by decide +kernel
theorem dX8_lowest_54 : decode cX8_lowest 54 = .ok (.lconst 0, 1) := by decide +kernel
theorem dX8_lowest_55 : decode cX8_lowest 55 = .ok (.goto 4, 3) := by decide +kernel
theorem dX8_lowest_58 : decode cX8_lowest 58 = .ok (.lconst 1, 1) := by decide +kernel
theorem dX8_lowest_59 : decode cX8_lowest 59 = .ok (.lreturn, 1) := by decide +kernel
theorem dX8_read_0 : decode cX8_read 0 = .ok (.aload_n 0, 1) := by decide +kernel
theorem dX8_read_1 : decode cX8_read 1 = .ok (.iload_n 1, 1) := by decide +kernel
theorem dX8_read_2 : decode cX8_read 2 = .ok (.iload_n 2, 1) := by decide +kernel
theorem dX8_read_3 : decode cX8_read 3 = .ok (.invokevirtual 48, 3) := by decide +kernel
theorem dX8_read_6 : decode cX8_read 6 = .ok (.ifCond .ne 14, 3) := by decide +kernel
theorem dX8_read_9 : decode cX8_read 9 = .ok (.aload_n 0, 1) := by decide +kernel
theorem dX8_read_10 : decode cX8_read 10 = .ok (.getfield 23, 3) := by decide +kernel
theorem dX8_read_13 : decode cX8_read 13 = .ok (.iload_n 1, 1) := by decide +kernel
theorem dX8_read_14 : decode cX8_read 14 = .ok (.aaload, 1) := by decide +kernel
theorem dX8_read_15 : decode cX8_read 15 = .ok (.iload_n 2, 1) := by decide +kernel
theorem dX8_read_16 : decode cX8_read 16 = .ok (.laload, 1) := by decide +kernel
theorem dX8_read_17 : decode cX8_read 17 = .ok (.goto 6, 3) := by decide +kernel
theorem dX8_read_20 : decode cX8_read 20 = .ok (.ldc2_w 58, 3) := by decide +kernel
theorem dX8_read_23 : decode cX8_read 23 = .ok (.lreturn, 1) := by decide +kernel
theorem dX8_copy_0 : decode cX8_copy 0 = .ok (.aload_n 0, 1) := by decide +kernel
theorem dX8_copy_1 : decode cX8_copy 1 = .ok (.getfield 11, 3) := by decide +kernel
theorem dX8_copy_4 : decode cX8_copy 4 = .ok (.iload_n 1, 1) := by decide +kernel
theorem dX8_copy_5 : decode cX8_copy 5 = .ok (.iaload, 1) := by decide +kernel
theorem dX8_copy_6 : decode cX8_copy 6 = .ok (.iconst (-1), 1) := by decide +kernel
theorem dX8_copy_7 : decode cX8_copy 7 = .ok (.if_icmp .eq 13, 3) := by decide +kernel
theorem dX8_copy_10 : decode cX8_copy 10 = .ok (.aload_n 0, 1) := by decide +kernel
theorem dX8_copy_11 : decode cX8_copy 11 = .ok (.getfield 11, 3) := by decide +kernel
theorem dX8_copy_14 : decode cX8_copy 14 = .ok (.iload_n 3, 1) := by decide +kernel
theorem dX8_copy_15 : decode cX8_copy 15 = .ok (.iaload, 1) := by decide +kernel
theorem dX8_copy_16 : decode cX8_copy 16 = .ok (.iconst (-1), 1) := by decide +kernel
theorem dX8_copy_17 : decode cX8_copy 17 = .ok (.if_icmp .ne 6, 3) := by decide +kernel
theorem dX8_copy_20 : decode cX8_copy 20 = .ok (.bipush (-11), 2) := by decide +kernel
theorem dX8_copy_22 : decode cX8_copy 22 = .ok (.ireturn, 1) := by decide +kernel
theorem dX8_copy_23 : decode cX8_copy 23 = .ok (.aload_n 0, 1) := by decide +kernel
theorem dX8_copy_24 : decode cX8_copy 24 = .ok (.iload_n 1, 1) := by decide +kernel
theorem dX8_copy_25 : decode cX8_copy 25 = .ok (.invokevirtual 44, 3) := by decide +kernel
theorem dX8_copy_28 : decode cX8_copy 28 = .ok (.ifCond .eq 18, 3) := by decide +kernel
theorem dX8_copy_31 : decode cX8_copy 31 = .ok (.aload_n 0, 1) := by decide +kernel
theorem dX8_copy_32 : decode cX8_copy 32 = .ok (.getfield 11, 3) := by decide +kernel
theorem dX8_copy_35 : decode cX8_copy 35 = .ok (.iload_n 1, 1) := by decide +kernel
theorem dX8_copy_36 : decode cX8_copy 36 = .ok (.iaload, 1) := by decide +kernel
theorem dX8_copy_37 : decode cX8_copy 37 = .ok (.aload_n 0, 1) := by decide +kernel
theorem dX8_copy_38 : decode cX8_copy 38 = .ok (.getfield 11, 3) := by decide +kernel
theorem dX8_copy_41 : decode cX8_copy 41 = .ok (.iload_n 3, 1) := by decide +kernel
theorem dX8_copy_42 : decode cX8_copy 42 = .ok (.iaload, 1) := by decide +kernel
theorem dX8_copy_43 : decode cX8_copy 43 = .ok (.if_icmp .eq 6, 3) := by decide +kernel
theorem dX8_copy_46 : decode cX8_copy 46 = .ok (.bipush (-12), 2) := by decide +kernel
theorem dX8_copy_48 : decode cX8_copy 48 = .ok (.ireturn, 1) := by decide +kernel
theorem dX8_copy_49 : decode cX8_copy 49 = .ok (.aload_n 0, 1) := by decide +kernel
theorem dX8_copy_50 : decode cX8_copy 50 = .ok (.iload_n 1, 1) := by decide +kernel
theorem dX8_copy_51 : decode cX8_copy 51 = .ok (.iload_n 2, 1) := by decide +kernel
theorem dX8_copy_52 : decode cX8_copy 52 = .ok (.iload 5, 2) := by decide +kernel
theorem dX8_copy_54 : decode cX8_copy 54 = .ok (.invokevirtual 60, 3) := by decide +kernel
theorem dX8_copy_57 : decode cX8_copy 57 = .ok (.ifCond .eq 15, 3) := by decide +kernel
theorem dX8_copy_60 : decode cX8_copy 60 = .ok (.aload_n 0, 1) := by decide +kernel
theorem dX8_copy_61 : decode cX8_copy 61 = .ok (.iload_n 3, 1) := by decide +kernel
theorem dX8_copy_62 : decode cX8_copy 62 = .ok (.iload 4, 2) := by decide +kernel
theorem dX8_copy_64 : decode cX8_copy 64 = .ok (.iload 5, 2) := by decide +kernel
theorem dX8_copy_66 : decode cX8_copy 66 = .ok (.invokevirtual 60, 3) := by decide +kernel
theorem dX8_copy_69 : decode cX8_copy 69 = .ok (.ifCond .ne 6, 3) := by decide +kernel
theorem dX8_copy_72 : decode cX8_copy 72 = .ok (.bipush (-13), 2) := by decide +kernel
theorem dX8_copy_74 : decode cX8_copy 74 = .ok (.ireturn, 1) := by decide +kernel
theorem dX8_copy_75 : decode cX8_copy 75 = .ok (.aload_n 0, 1) := by decide +kernel
theorem dX8_copy_76 : decode cX8_copy 76 = .ok (.getfield 23, 3) := by decide +kernel
theorem dX8_copy_79 : decode cX8_copy 79 = .ok (.iload_n 1, 1) := by decide +kernel
theorem dX8_copy_80 : decode cX8_copy 80 = .ok (.aaload, 1) := by decide +kernel
theorem dX8_copy_81 : decode cX8_copy 81 = .ok (.iload_n 2, 1) := by decide +kernel
theorem dX8_copy_82 : decode cX8_copy 82 = .ok (.aload_n 0, 1) := by decide +kernel
theorem dX8_copy_83 : decode cX8_copy 83 = .ok (.getfield 23, 3) := by decide +kernel
theorem dX8_copy_86 : decode cX8_copy 86 = .ok (.iload_n 3, 1) := by decide +kernel
theorem dX8_copy_87 : decode cX8_copy 87 = .ok (.aaload, 1) := by decide +kernel
theorem dX8_copy_88 : decode cX8_copy 88 = .ok (.iload 4, 2) := by decide +kernel
theorem dX8_copy_90 : decode cX8_copy 90 = .ok (.iload 5, 2) := by decide +kernel
theorem dX8_copy_92 : decode cX8_copy 92 = .ok (.invokestatic 63, 3) := by decide +kernel
theorem dX8_copy_95 : decode cX8_copy 95 = .ok (.iload 5, 2) := by decide +kernel
theorem dX8_copy_97 : decode cX8_copy 97 = .ok (.ireturn, 1) := by decide +kernel
theorem dX8_hasStretch_0 : decode cX8_hasStretch 0 = .ok (.iload_n 3, 1) := by decide +kernel
theorem dX8_hasStretch_1 : decode cX8_hasStretch 1 = .ok (.ifCond .lt 33, 3) := by decide +kernel
theorem dX8_hasStretch_4 : decode cX8_hasStretch 4 = .ok (.iload_n 2, 1) := by decide +kernel
theorem dX8_hasStretch_5 : decode cX8_hasStretch 5 = .ok (.ifCond .lt 29, 3) := by decide +kernel
theorem dX8_hasStretch_8 : decode cX8_hasStretch 8 = .ok (.iload_n 2, 1) := by decide +kernel
theorem dX8_hasStretch_9 : decode cX8_hasStretch 9 = .ok (.aload_n 0, 1) := by decide +kernel
theorem dX8_hasStretch_10 : decode cX8_hasStretch 10 = .ok (.getfield 18, 3) := by decide +kernel
theorem dX8_hasStretch_13 : decode cX8_hasStretch 13 = .ok (.iload_n 1, 1) := by decide +kernel
theorem dX8_hasStretch_14 : decode cX8_hasStretch 14 = .ok (.iaload, 1) := by decide +kernel
theorem dX8_hasStretch_15 : decode cX8_hasStretch 15 = .ok (.if_icmp .gt 19, 3) := by decide +kernel
theorem dX8_hasStretch_18 : decode cX8_hasStretch 18 = .ok (.iload_n 3, 1) := by decide +kernel
theorem dX8_hasStretch_19 : decode cX8_hasStretch 19 = .ok (.aload_n 0, 1) := by decide +kernel
theorem dX8_hasStretch_20 : decode cX8_hasStretch 20 = .ok (.getfield 18, 3) := by decide +kernel
theorem dX8_hasStretch_23 : decode cX8_hasStretch 23 = .ok (.iload_n 1, 1) := by decide +kernel
theorem dX8_hasStretch_24 : decode cX8_hasStretch 24 = .ok (.iaload, 1) := by decide +kernel
theorem dX8_hasStretch_25 : decode cX8_hasStretch 25 = .ok (.iload_n 2, 1) := by decide +kernel
theorem dX8_hasStretch_26 : decode cX8_hasStretch 26 = .ok (.isub, 1) := by decide +kernel
theorem dX8_hasStretch_27 : decode cX8_hasStretch 27 = .ok (.if_icmp .gt 7, 3) := by decide +kernel
theorem dX8_hasStretch_30 : decode cX8_hasStretch 30 = .ok (.iconst 1, 1) := by decide +kernel
theorem dX8_hasStretch_31 : decode cX8_hasStretch 31 = .ok (.goto 4, 3) := by decide +kernel
theorem dX8_hasStretch_34 : decode cX8_hasStretch 34 = .ok (.iconst 0, 1) := by decide +kernel
theorem dX8_hasStretch_35 : decode cX8_hasStretch 35 = .ok (.ireturn, 1) := by decide +kernel
theorem dX8_kindUnder_0 : decode cX8_kindUnder 0 = .ok (.aload_n 0, 1) := by decide +kernel
theorem dX8_kindUnder_1 : decode cX8_kindUnder 1 = .ok (.getfield 11, 3) := by decide +kernel
theorem dX8_kindUnder_4 : decode cX8_kindUnder 4 = .ok (.iload_n 1, 1) := by decide +kernel
theorem dX8_kindUnder_5 : decode cX8_kindUnder 5 = .ok (.iaload, 1) := by decide +kernel
theorem dX8_kindUnder_6 : decode cX8_kindUnder 6 = .ok (.iconst (-1), 1) := by decide +kernel
theorem dX8_kindUnder_7 : decode cX8_kindUnder 7 = .ok (.if_icmp .ne 6, 3) := by decide +kernel
theorem dX8_kindUnder_10 : decode cX8_kindUnder 10 = .ok (.bipush (-11), 2) := by decide +kernel
theorem dX8_kindUnder_12 : decode cX8_kindUnder 12 = .ok (.ireturn, 1) := by decide +kernel
theorem dX8_kindUnder_13 : decode cX8_kindUnder 13 = .ok (.aload_n 0, 1) := by decide +kernel
theorem dX8_kindUnder_14 : decode cX8_kindUnder 14 = .ok (.iload_n 1, 1) := by decide +kernel
theorem dX8_kindUnder_15 : decode cX8_kindUnder 15 = .ok (.invokevirtual 44, 3) := by decide +kernel
theorem dX8_kindUnder_18 : decode cX8_kindUnder 18 = .ok (.ifCond .ne 27, 3) := by decide +kernel
theorem dX8_kindUnder_21 : decode cX8_kindUnder 21 = .ok (.aload_n 0, 1) := by decide +kernel
theorem dX8_kindUnder_22 : decode cX8_kindUnder 22 = .ok (.getfield 30, 3) := by decide +kernel
theorem dX8_kindUnder_25 : decode cX8_kindUnder 25 = .ok (.aload_n 0, 1) := by decide +kernel
theorem dX8_kindUnder_26 : decode cX8_kindUnder 26 = .ok (.getfield 30, 3) := by decide +kernel
theorem dX8_kindUnder_29 : decode cX8_kindUnder 29 = .ok (.aload_n 0, 1) := by decide +kernel
theorem dX8_kindUnder_30 : decode cX8_kindUnder 30 = .ok (.getfield 15, 3) := by decide +kernel
theorem dX8_kindUnder_33 : decode cX8_kindUnder 33 = .ok (.iload_n 1, 1) := by decide +kernel
theorem dX8_kindUnder_34 : decode cX8_kindUnder 34 = .ok (.iaload, 1) := by decide +kernel
theorem dX8_kindUnder_35 : decode cX8_kindUnder 35 = .ok (.invokevirtual 69, 3) := by decide +kernel
theorem dX8_kindUnder_38 : decode cX8_kindUnder 38 = .ok (.iload_n 2, 1) := by decide +kernel
theorem dX8_kindUnder_39 : decode cX8_kindUnder 39 = .ok (.invokevirtual 75, 3) := by decide +kernel
theorem dX8_kindUnder_42 : decode cX8_kindUnder 42 = .ok (.ifCond .ne 6, 3) := by decide +kernel
theorem dX8_kindUnder_45 : decode cX8_kindUnder 45 = .ok (.bipush (-12), 2) := by decide +kernel
theorem dX8_kindUnder_47 : decode cX8_kindUnder 47 = .ok (.ireturn, 1) := by decide +kernel
theorem dX8_kindUnder_48 : decode cX8_kindUnder 48 = .ok (.aload_n 0, 1) := by decide +kernel
theorem dX8_kindUnder_49 : decode cX8_kindUnder 49 = .ok (.getfield 30, 3) := by decide +kernel
theorem dX8_kindUnder_52 : decode cX8_kindUnder 52 = .ok (.aload_n 0, 1) := by decide +kernel
theorem dX8_kindUnder_53 : decode cX8_kindUnder 53 = .ok (.getfield 15, 3) := by decide +kernel
theorem dX8_kindUnder_56 : decode cX8_kindUnder 56 = .ok (.iload_n 1, 1) := by decide +kernel
theorem dX8_kindUnder_57 : decode cX8_kindUnder 57 = .ok (.iaload, 1) := by decide +kernel
theorem dX8_kindUnder_58 : decode cX8_kindUnder 58 = .ok (.invokevirtual 69, 3) := by decide +kernel
theorem dX8_kindUnder_61 : decode cX8_kindUnder 61 = .ok (.ireturn, 1) := by decide +kernel
theorem dX8_firstUnlawful_0 : decode cX8_firstUnlawful 0 = .ok (.aload_n 0, 1) := by decide +kernel
theorem dX8_firstUnlawful_1 : decode cX8_firstUnlawful 1 = .ok (.iload_n 1, 1) := by decide +kernel
theorem dX8_firstUnlawful_2 : decode cX8_firstUnlawful 2 = .ok (.invokevirtual 44, 3) := by decide +kernel
theorem dX8_firstUnlawful_5 : decode cX8_firstUnlawful 5 = .ok (.ifCond .eq 16, 3) := by decide +kernel
theorem dX8_firstUnlawful_8 : decode cX8_firstUnlawful 8 = .ok (.aload_n 0, 1) := by decide +kernel
theorem dX8_firstUnlawful_9 : decode cX8_firstUnlawful 9 = .ok (.getfield 11, 3) := by decide +kernel
theorem dX8_firstUnlawful_12 : decode cX8_firstUnlawful 12 = .ok (.iload_n 1, 1) := by decide +kernel
theorem dX8_firstUnlawful_13 : decode cX8_firstUnlawful 13 = .ok (.iaload, 1) := by decide +kernel
theorem dX8_firstUnlawful_14 : decode cX8_firstUnlawful 14 = .ok (.iconst 3, 1) := by decide +kernel
theorem dX8_firstUnlawful_15 : decode cX8_firstUnlawful 15 = .ok (.if_icmp .eq 6, 3) := by decide +kernel
theorem dX8_firstUnlawful_18 : decode cX8_firstUnlawful 18 = .ok (.bipush (-12), 2) := by decide +kernel
theorem dX8_firstUnlawful_20 : decode cX8_firstUnlawful 20 = .ok (.ireturn, 1) := by decide +kernel
theorem dX8_firstUnlawful_21 : decode cX8_firstUnlawful 21 = .ok (.iload_n 2, 1) := by decide +kernel
theorem dX8_firstUnlawful_22 : decode cX8_firstUnlawful 22 = .ok (.istore 4, 2) := by decide +kernel
theorem dX8_firstUnlawful_24 : decode cX8_firstUnlawful 24 = .ok (.iload 4, 2) := by decide +kernel
theorem dX8_firstUnlawful_26 : decode cX8_firstUnlawful 26 = .ok (.iload_n 2, 1) := by decide +kernel
theorem dX8_firstUnlawful_27 : decode cX8_firstUnlawful 27 = .ok (.isub, 1) := by decide +kernel
theorem dX8_firstUnlawful_28 : decode cX8_firstUnlawful 28 = .ok (.iload_n 3, 1) := by decide +kernel
theorem dX8_firstUnlawful_29 : decode cX8_firstUnlawful 29 = .ok (.if_icmp .ge 61, 3) := by decide +kernel
theorem dX8_firstUnlawful_32 : decode cX8_firstUnlawful 32 = .ok (.aload_n 0, 1) := by decide +kernel
theorem dX8_firstUnlawful_33 : decode cX8_firstUnlawful 33 = .ok (.iload_n 1, 1) := by decide +kernel
theorem dX8_firstUnlawful_34 : decode cX8_firstUnlawful 34 = .ok (.iload 4, 2) := by decide +kernel
theorem dX8_firstUnlawful_36 : decode cX8_firstUnlawful 36 = .ok (.invokevirtual 48, 3) := by decide +kernel
theorem dX8_firstUnlawful_39 : decode cX8_firstUnlawful 39 = .ok (.istore 5, 2) := by decide +kernel
theorem dX8_firstUnlawful_41 : decode cX8_firstUnlawful 41 = .ok (.iload 5, 2) := by decide +kernel
theorem dX8_firstUnlawful_43 : decode cX8_firstUnlawful 43 = .ok (.ifCond .eq 6, 3) := by decide +kernel
theorem dX8_firstUnlawful_46 : decode cX8_firstUnlawful 46 = .ok (.iload 5, 2) := by decide +kernel
theorem dX8_firstUnlawful_48 : decode cX8_firstUnlawful 48 = .ok (.ireturn, 1) := by decide +kernel
theorem dX8_firstUnlawful_49 : decode cX8_firstUnlawful 49 = .ok (.aload_n 0, 1) := by decide +kernel
theorem dX8_firstUnlawful_50 : decode cX8_firstUnlawful 50 = .ok (.getfield 23, 3) := by decide +kernel
theorem dX8_firstUnlawful_53 : decode cX8_firstUnlawful 53 = .ok (.iload_n 1, 1) := by decide +kernel
theorem dX8_firstUnlawful_54 : decode cX8_firstUnlawful 54 = .ok (.aaload, 1) := by decide +kernel
theorem dX8_firstUnlawful_55 : decode cX8_firstUnlawful 55 = .ok (.iload 4, 2) := by decide +kernel
theorem dX8_firstUnlawful_57 : decode cX8_firstUnlawful 57 = .ok (.laload, 1) := by decide +kernel
theorem dX8_firstUnlawful_58 : decode cX8_firstUnlawful 58 = .ok (.lstore 6, 2) := by decide +kernel
theorem dX8_firstUnlawful_60 : decode cX8_firstUnlawful 60 = .ok (.lload 6, 2) := by decide +kernel
theorem dX8_firstUnlawful_62 : decode cX8_firstUnlawful 62 = .ok (.ldc2_w 79, 3) := by decide +kernel
theorem dX8_firstUnlawful_65 : decode cX8_firstUnlawful 65 = .ok (.lcmp, 1) := by decide +kernel
theorem dX8_firstUnlawful_66 : decode cX8_firstUnlawful 66 = .ok (.ifCond .gt 15, 3) := by decide +kernel
theorem dX8_firstUnlawful_69 : decode cX8_firstUnlawful 69 = .ok (.aload_n 0, 1) := by decide +kernel
theorem dX8_firstUnlawful_70 : decode cX8_firstUnlawful 70 = .ok (.getfield 26, 3) := by decide +kernel
theorem dX8_firstUnlawful_73 : decode cX8_firstUnlawful 73 = .ok (.lload 6, 2) := by decide +kernel
theorem dX8_firstUnlawful_75 : decode cX8_firstUnlawful 75 = .ok (.invokevirtual 81, 3) := by decide +kernel
theorem dX8_firstUnlawful_78 : decode cX8_firstUnlawful 78 = .ok (.ifCond .ne 6, 3) := by decide +kernel
theorem dX8_firstUnlawful_81 : decode cX8_firstUnlawful 81 = .ok (.iload 4, 2) := by decide +kernel
theorem dX8_firstUnlawful_83 : decode cX8_firstUnlawful 83 = .ok (.ireturn, 1) := by decide +kernel
theorem dX8_firstUnlawful_84 : decode cX8_firstUnlawful 84 = .ok (.iinc 4 1, 3) := by decide +kernel
theorem dX8_firstUnlawful_87 : decode cX8_firstUnlawful 87 = .ok (.goto (-63), 3) := by decide +kernel
theorem dX8_firstUnlawful_90 : decode cX8_firstUnlawful 90 = .ok (.iload_n 2, 1) := by decide +kernel
theorem dX8_firstUnlawful_91 : decode cX8_firstUnlawful 91 = .ok (.iload_n 3, 1) := by decide +kernel
theorem dX8_firstUnlawful_92 : decode cX8_firstUnlawful 92 = .ok (.iadd, 1) := by decide +kernel
theorem dX8_firstUnlawful_93 : decode cX8_firstUnlawful 93 = .ok (.ireturn, 1) := by decide +kernel
theorem dX9_init_0 : decode cX9_init 0 = .ok (.aload_n 0, 1) := by decide +kernel
theorem dX9_init_1 : decode cX9_init 1 = .ok (.invokespecial 3, 3) := by decide +kernel
theorem dX9_init_4 : decode cX9_init 4 = .ok (.aload_n 0, 1) := by decide +kernel
theorem dX9_init_5 : decode cX9_init 5 = .ok (.iconst 4, 1) := by decide +kernel
theorem dX9_init_6 : decode cX9_init 6 = .ok (.newarray .int, 2) := by decide +kernel
theorem dX9_init_8 : decode cX9_init 8 = .ok (.putfield 11, 3) := by decide +kernel
theorem dX9_init_11 : decode cX9_init 11 = .ok (.aload_n 0, 1) := by decide +kernel
theorem dX9_init_12 : decode cX9_init 12 = .ok (.iconst 4, 1) := by decide +kernel
theorem dX9_init_13 : decode cX9_init 13 = .ok (.newarray .int, 2) := by decide +kernel
theorem dX9_init_15 : decode cX9_init 15 = .ok (.putfield 15, 3) := by decide +kernel
theorem dX9_init_18 : decode cX9_init 18 = .ok (.aload_n 0, 1) := by decide +kernel
theorem dX9_init_19 : decode cX9_init 19 = .ok (.aload_n 1, 1) := by decide +kernel
theorem dX9_init_20 : decode cX9_init 20 = .ok (.putfield 18, 3) := by decide +kernel
theorem dX9_init_23 : decode cX9_init 23 = .ok (.return_, 1) := by decide +kernel
theorem dX9_divide_0 : decode cX9_divide 0 = .ok (.aload_n 0, 1) := by decide +kernel
theorem dX9_divide_1 : decode cX9_divide 1 = .ok (.iload_n 2, 1) := by decide +kernel
theorem dX9_divide_2 : decode cX9_divide 2 = .ok (.putfield 22, 3) := by decide +kernel
theorem dX9_divide_5 : decode cX9_divide 5 = .ok (.aload_n 0, 1) := by decide +kernel
theorem dX9_divide_6 : decode cX9_divide 6 = .ok (.sipush 1000, 3) := by decide +kernel
theorem dX9_divide_9 : decode cX9_divide 9 = .ok (.putfield 26, 3) := by decide +kernel
theorem dX9_divide_12 : decode cX9_divide 12 = .ok (.aload_n 0, 1) := by decide +kernel
theorem dX9_divide_13 : decode cX9_divide 13 = .ok (.iconst 0, 1) := by decide +kernel
theorem dX9_divide_14 : decode cX9_divide 14 = .ok (.iconst 2, 1) := by decide +kernel
theorem dX9_divide_15 : decode cX9_divide 15 = .ok (.iload_n 1, 1) := by decide +kernel
theorem dX9_divide_16 : decode cX9_divide 16 = .ok (.invokevirtual 29, 3) := by decide +kernel
theorem dX9_divide_19 : decode cX9_divide 19 = .ok (.aload_n 0, 1) := by decide +kernel
theorem dX9_divide_20 : decode cX9_divide 20 = .ok (.getfield 26, 3) := by decide +kernel
theorem dX9_divide_23 : decode cX9_divide 23 = .ok (.sipush 1000, 3) := by decide +kernel
theorem dX9_divide_26 : decode cX9_divide 26 = .ok (.if_icmp .ne 8, 3) := by decide +kernel
theorem dX9_divide_29 : decode cX9_divide 29 = .ok (.bipush (-2), 2) := by decide +kernel
theorem dX9_divide_31 : decode cX9_divide 31 = .ok (.goto 7, 3) := by decide +kernel
