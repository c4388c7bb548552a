theorem dX12_seller_11 : decode cX12_seller 11 = .ok (.getfield 207, 3) := by decide +kernel
theorem dX12_seller_14 : decode cX12_seller 14 = .ok (.istore_n 2, 1) := by decide +kernel
theorem dX12_seller_15 : decode cX12_seller 15 = .ok (.aload_n 0, 1) := by decide +kernel
theorem dX12_seller_16 : decode cX12_seller 16 = .ok (.iconst 0, 1) := by decide +kernel
theorem dX12_seller_17 : decode cX12_seller 17 = .ok (.putfield 207, 3) := by decide +kernel
theorem dX12_seller_20 : decode cX12_seller 20 = .ok (.aload_n 0, 1) := by decide +kernel
theorem dX12_seller_21 : decode cX12_seller 21 = .ok (.getfield 219, 3) := by decide +kernel
theorem dX12_seller_24 : decode cX12_seller 24 = .ok (.ifCond .lt 11, 3) := by decide +kernel
theorem dX12_seller_27 : decode cX12_seller 27 = .ok (.bipush (-100), 2) := by decide +kernel
theorem dX12_seller_29 : decode cX12_seller 29 = .ok (.aload_n 0, 1) := by decide +kernel
theorem dX12_seller_30 : decode cX12_seller 30 = .ok (.getfield 219, 3) := by decide +kernel
theorem dX12_seller_33 : decode cX12_seller 33 = .ok (.isub, 1) := by decide +kernel
theorem dX12_seller_34 : decode cX12_seller 34 = .ok (.ireturn, 1) := by decide +kernel
theorem dX12_seller_35 : decode cX12_seller 35 = .ok (.iconst 0, 1) := by decide +kernel
theorem dX12_seller_36 : decode cX12_seller 36 = .ok (.istore_n 3, 1) := by decide +kernel
theorem dX12_seller_37 : decode cX12_seller 37 = .ok (.iload_n 3, 1) := by decide +kernel
theorem dX12_seller_38 : decode cX12_seller 38 = .ok (.iload_n 2, 1) := by decide +kernel
theorem dX12_seller_39 : decode cX12_seller 39 = .ok (.if_icmp .ge 21, 3) := by decide +kernel
theorem dX12_seller_42 : decode cX12_seller 42 = .ok (.aload_n 0, 1) := by decide +kernel
theorem dX12_seller_43 : decode cX12_seller 43 = .ok (.getfield 47, 3) := by decide +kernel
theorem dX12_seller_46 : decode cX12_seller 46 = .ok (.iload_n 3, 1) := by decide +kernel
theorem dX12_seller_47 : decode cX12_seller 47 = .ok (.aload_n 0, 1) := by decide +kernel
theorem dX12_seller_48 : decode cX12_seller 48 = .ok (.getfield 44, 3) := by decide +kernel
theorem dX12_seller_51 : decode cX12_seller 51 = .ok (.iload_n 3, 1) := by decide +kernel
theorem dX12_seller_52 : decode cX12_seller 52 = .ok (.iaload, 1) := by decide +kernel
theorem dX12_seller_53 : decode cX12_seller 53 = .ok (.iastore, 1) := by decide +kernel
theorem dX12_seller_54 : decode cX12_seller 54 = .ok (.iinc 3 1, 3) := by decide +kernel
theorem dX12_seller_57 : decode cX12_seller 57 = .ok (.goto (-20), 3) := by decide +kernel
theorem dX12_seller_60 : decode cX12_seller 60 = .ok (.aload_n 0, 1) := by decide +kernel
theorem dX12_seller_61 : decode cX12_seller 61 = .ok (.iload_n 2, 1) := by decide +kernel
theorem dX12_seller_62 : decode cX12_seller 62 = .ok (.putfield 80, 3) := by decide +kernel
theorem dX12_seller_65 : decode cX12_seller 65 = .ok (.iconst 1, 1) := by decide +kernel
theorem dX12_seller_66 : decode cX12_seller 66 = .ok (.ireturn, 1) := by decide +kernel
theorem dX12_chosen_0 : decode cX12_chosen 0 = .ok (.iload_n 1, 1) := by decide +kernel
theorem dX12_chosen_1 : decode cX12_chosen 1 = .ok (.iload_n 2, 1) := by decide +kernel
theorem dX12_chosen_2 : decode cX12_chosen 2 = .ok (.invokestatic 204, 3) := by decide +kernel
theorem dX12_chosen_5 : decode cX12_chosen 5 = .ok (.ifCond .eq 22, 3) := by decide +kernel
theorem dX12_chosen_8 : decode cX12_chosen 8 = .ok (.iload_n 2, 1) := by decide +kernel
theorem dX12_chosen_9 : decode cX12_chosen 9 = .ok (.iload_n 1, 1) := by decide +kernel
theorem dX12_chosen_10 : decode cX12_chosen 10 = .ok (.isub, 1) := by decide +kernel
theorem dX12_chosen_11 : decode cX12_chosen 11 = .ok (.sipush 2000, 3) := by decide +kernel
theorem dX12_chosen_14 : decode cX12_chosen 14 = .ok (.if_icmp .gt 13, 3) := by decide +kernel
theorem dX12_chosen_17 : decode cX12_chosen 17 = .ok (.iload_n 3, 1) := by decide +kernel
theorem dX12_chosen_18 : decode cX12_chosen 18 = .ok (.i2l, 1) := by decide +kernel
theorem dX12_chosen_19 : decode cX12_chosen 19 = .ok (.lconst 0, 1) := by decide +kernel
theorem dX12_chosen_20 : decode cX12_chosen 20 = .ok (.lconst 1, 1) := by decide +kernel
theorem dX12_chosen_21 : decode cX12_chosen 21 = .ok (.invokestatic 123, 3) := by decide +kernel
theorem dX12_chosen_24 : decode cX12_chosen 24 = .ok (.ifCond .ne 7, 3) := by decide +kernel
theorem dX12_chosen_27 : decode cX12_chosen 27 = .ok (.ldc_w 259, 3) := by decide +kernel
theorem dX12_chosen_30 : decode cX12_chosen 30 = .ok (.ireturn, 1) := by decide +kernel
theorem dX12_chosen_31 : decode cX12_chosen 31 = .ok (.iconst (-1), 1) := by decide +kernel
theorem dX12_chosen_32 : decode cX12_chosen 32 = .ok (.istore 4, 2) := by decide +kernel
theorem dX12_chosen_34 : decode cX12_chosen 34 = .ok (.iconst 0, 1) := by decide +kernel
theorem dX12_chosen_35 : decode cX12_chosen 35 = .ok (.istore 5, 2) := by decide +kernel
theorem dX12_chosen_37 : decode cX12_chosen 37 = .ok (.iconst 0, 1) := by decide +kernel
theorem dX12_chosen_38 : decode cX12_chosen 38 = .ok (.istore 6, 2) := by decide +kernel
theorem dX12_chosen_40 : decode cX12_chosen 40 = .ok (.aload_n 0, 1) := by decide +kernel
theorem dX12_chosen_41 : decode cX12_chosen 41 = .ok (.iload_n 1, 1) := by decide +kernel
theorem dX12_chosen_42 : decode cX12_chosen 42 = .ok (.iconst 1, 1) := by decide +kernel
theorem dX12_chosen_43 : decode cX12_chosen 43 = .ok (.isub, 1) := by decide +kernel
theorem dX12_chosen_44 : decode cX12_chosen 44 = .ok (.invokevirtual 200, 3) := by decide +kernel
theorem dX12_chosen_47 : decode cX12_chosen 47 = .ok (.istore 7, 2) := by decide +kernel
theorem dX12_chosen_49 : decode cX12_chosen 49 = .ok (.iload_n 1, 1) := by decide +kernel
theorem dX12_chosen_50 : decode cX12_chosen 50 = .ok (.istore 8, 2) := by decide +kernel
theorem dX12_chosen_52 : decode cX12_chosen 52 = .ok (.iload 8, 2) := by decide +kernel
theorem dX12_chosen_54 : decode cX12_chosen 54 = .ok (.iload_n 2, 1) := by decide +kernel
theorem dX12_chosen_55 : decode cX12_chosen 55 = .ok (.if_icmp .gt 130, 3) := by decide +kernel
theorem dX12_chosen_58 : decode cX12_chosen 58 = .ok (.aload_n 0, 1) := by decide +kernel
theorem dX12_chosen_59 : decode cX12_chosen 59 = .ok (.iload 8, 2) := by decide +kernel
theorem dX12_chosen_61 : decode cX12_chosen 61 = .ok (.i2l, 1) := by decide +kernel
theorem dX12_chosen_62 : decode cX12_chosen 62 = .ok (.invokevirtual 135, 3) := by decide +kernel
theorem dX12_chosen_65 : decode cX12_chosen 65 = .ok (.ifCond .ne 6, 3) := by decide +kernel
theorem dX12_chosen_68 : decode cX12_chosen 68 = .ok (.goto 111, 3) := by decide +kernel
theorem dX12_chosen_71 : decode cX12_chosen 71 = .ok (.iinc 6 1, 3) := by decide +kernel
theorem dX12_chosen_74 : decode cX12_chosen 74 = .ok (.aload_n 0, 1) := by decide +kernel
theorem dX12_chosen_75 : decode cX12_chosen 75 = .ok (.getfield 50, 3) := by decide +kernel
theorem dX12_chosen_78 : decode cX12_chosen 78 = .ok (.iconst 0, 1) := by decide +kernel
theorem dX12_chosen_79 : decode cX12_chosen 79 = .ok (.iload 8, 2) := by decide +kernel
theorem dX12_chosen_81 : decode cX12_chosen 81 = .ok (.iastore, 1) := by decide +kernel
theorem dX12_chosen_82 : decode cX12_chosen 82 = .ok (.aload_n 0, 1) := by decide +kernel
theorem dX12_chosen_83 : decode cX12_chosen 83 = .ok (.getfield 50, 3) := by decide +kernel
theorem dX12_chosen_86 : decode cX12_chosen 86 = .ok (.iconst 1, 1) := by decide +kernel
theorem dX12_chosen_87 : decode cX12_chosen 87 = .ok (.iload 7, 2) := by decide +kernel
theorem dX12_chosen_89 : decode cX12_chosen 89 = .ok (.ifCond .ge 7, 3) := by decide +kernel
theorem dX12_chosen_92 : decode cX12_chosen 92 = .ok (.iconst 0, 1) := by decide +kernel
theorem dX12_chosen_93 : decode cX12_chosen 93 = .ok (.goto 8, 3) := by decide +kernel
theorem dX12_chosen_96 : decode cX12_chosen 96 = .ok (.iload 8, 2) := by decide +kernel
theorem dX12_chosen_98 : decode cX12_chosen 98 = .ok (.iload 7, 2) := by decide +kernel
theorem dX12_chosen_100 : decode cX12_chosen 100 = .ok (.isub, 1) := by decide +kernel
theorem dX12_chosen_101 : decode cX12_chosen 101 = .ok (.iastore, 1) := by decide +kernel
theorem dX12_chosen_102 : decode cX12_chosen 102 = .ok (.aload_n 0, 1) := by decide +kernel
theorem dX12_chosen_103 : decode cX12_chosen 103 = .ok (.getfield 50, 3) := by decide +kernel
theorem dX12_chosen_106 : decode cX12_chosen 106 = .ok (.iconst 2, 1) := by decide +kernel
theorem dX12_chosen_107 : decode cX12_chosen 107 = .ok (.iload 6, 2) := by decide +kernel
theorem dX12_chosen_109 : decode cX12_chosen 109 = .ok (.iastore, 1) := by decide +kernel
theorem dX12_chosen_110 : decode cX12_chosen 110 = .ok (.aload_n 0, 1) := by decide +kernel
theorem dX12_chosen_111 : decode cX12_chosen 111 = .ok (.getfield 50, 3) := by decide +kernel
theorem dX12_chosen_114 : decode cX12_chosen 114 = .ok (.iconst 3, 1) := by decide +kernel
theorem dX12_chosen_115 : decode cX12_chosen 115 = .ok (.iload 8, 2) := by decide +kernel
theorem dX12_chosen_117 : decode cX12_chosen 117 = .ok (.bipush 10, 2) := by decide +kernel
theorem dX12_chosen_119 : decode cX12_chosen 119 = .ok (.irem, 1) := by decide +kernel
theorem dX12_chosen_120 : decode cX12_chosen 120 = .ok (.iastore, 1) := by decide +kernel
theorem dX12_chosen_121 : decode cX12_chosen 121 = .ok (.aload_n 0, 1) := by decide +kernel
theorem dX12_chosen_122 : decode cX12_chosen 122 = .ok (.getfield 50, 3) := by decide +kernel
theorem dX12_chosen_125 : decode cX12_chosen 125 = .ok (.iconst 4, 1) := by decide +kernel
theorem dX12_chosen_126 : decode cX12_chosen 126 = .ok (.iload 8, 2) := by decide +kernel
theorem dX12_chosen_128 : decode cX12_chosen 128 = .ok (.bipush 100, 2) := by decide +kernel
theorem dX12_chosen_130 : decode cX12_chosen 130 = .ok (.idiv, 1) := by decide +kernel
theorem dX12_chosen_131 : decode cX12_chosen 131 = .ok (.iastore, 1) := by decide +kernel
theorem dX12_chosen_132 : decode cX12_chosen 132 = .ok (.aload_n 0, 1) := by decide +kernel
theorem dX12_chosen_133 : decode cX12_chosen 133 = .ok (.getfield 80, 3) := by decide +kernel
theorem dX12_chosen_136 : decode cX12_chosen 136 = .ok (.ifCond .ge 8, 3) := by decide +kernel
theorem dX12_chosen_139 : decode cX12_chosen 139 = .ok (.iload 8, 2) := by decide +kernel
theorem dX12_chosen_141 : decode cX12_chosen 141 = .ok (.goto 12, 3) := by decide +kernel
theorem dX12_chosen_144 : decode cX12_chosen 144 = .ok (.aload_n 0, 1) := by decide +kernel
theorem dX12_chosen_145 : decode cX12_chosen 145 = .ok (.iconst 0, 1) := by decide +kernel
theorem dX12_chosen_146 : decode cX12_chosen 146 = .ok (.aload_n 0, 1) := by decide +kernel
theorem dX12_chosen_147 : decode cX12_chosen 147 = .ok (.getfield 80, 3) := by decide +kernel
theorem dX12_chosen_150 : decode cX12_chosen 150 = .ok (.invokevirtual 256, 3) := by decide +kernel
theorem dX12_chosen_153 : decode cX12_chosen 153 = .ok (.istore 9, 2) := by decide +kernel
theorem dX12_chosen_155 : decode cX12_chosen 155 = .ok (.iload 4, 2) := by decide +kernel
theorem dX12_chosen_157 : decode cX12_chosen 157 = .ok (.ifCond .lt 10, 3) := by decide +kernel
theorem dX12_chosen_160 : decode cX12_chosen 160 = .ok (.iload 9, 2) := by decide +kernel
theorem dX12_chosen_162 : decode cX12_chosen 162 = .ok (.iload 5, 2) := by decide +kernel
theorem dX12_chosen_164 : decode cX12_chosen 164 = .ok (.if_icmp .le 11, 3) := by decide +kernel
theorem dX12_chosen_167 : decode cX12_chosen 167 = .ok (.iload 8, 2) := by decide +kernel
theorem dX12_chosen_169 : decode cX12_chosen 169 = .ok (.istore 4, 2) := by decide +kernel
theorem dX12_chosen_171 : decode cX12_chosen 171 = .ok (.iload 9, 2) := by decide +kernel
theorem dX12_chosen_173 : decode cX12_chosen 173 = .ok (.istore 5, 2) := by decide +kernel
theorem dX12_chosen_175 : decode cX12_chosen 175 = .ok (.iload 8, 2) := by decide +kernel
theorem dX12_chosen_177 : decode cX12_chosen 177 = .ok (.istore 7, 2) := by decide +kernel
theorem dX12_chosen_179 : decode cX12_chosen 179 = .ok (.iinc 8 1, 3) := by decide +kernel
theorem dX12_chosen_182 : decode cX12_chosen 182 = .ok (.goto (-130), 3) := by decide +kernel
theorem dX12_chosen_185 : decode cX12_chosen 185 = .ok (.iload 4, 2) := by decide +kernel
theorem dX12_chosen_187 : decode cX12_chosen 187 = .ok (.ifCond .ge 9, 3) := by decide +kernel
theorem dX12_chosen_190 : decode cX12_chosen 190 = .ok (.ldc_w 259, 3) := by decide +kernel
theorem dX12_chosen_193 : decode cX12_chosen 193 = .ok (.goto 14, 3) := by decide +kernel
theorem dX12_chosen_196 : decode cX12_chosen 196 = .ok (.iload_n 3, 1) := by decide +kernel
theorem dX12_chosen_197 : decode cX12_chosen 197 = .ok (.ifCond .ne 8, 3) := by decide +kernel
theorem dX12_chosen_200 : decode cX12_chosen 200 = .ok (.iload 4, 2) := by decide +kernel
theorem dX12_chosen_202 : decode cX12_chosen 202 = .ok (.goto 5, 3) := by decide +kernel
theorem dX12_chosen_205 : decode cX12_chosen 205 = .ok (.iload 5, 2) := by decide +kernel
theorem dX12_chosen_207 : decode cX12_chosen 207 = .ok (.ireturn, 1) := by decide +kernel
theorem dX12_rent_0 : decode cX12_rent 0 = .ok (.iload_n 1, 1) := by decide +kernel
theorem dX12_rent_1 : decode cX12_rent 1 = .ok (.i2l, 1) := by decide +kernel
theorem dX12_rent_2 : decode cX12_rent 2 = .ok (.ldc2_w 90, 3) := by decide +kernel
theorem dX12_rent_5 : decode cX12_rent 5 = .ok (.ldc2_w 260, 3) := by decide +kernel
theorem dX12_rent_8 : decode cX12_rent 8 = .ok (.invokestatic 123, 3) := by decide +kernel
theorem dX12_rent_11 : decode cX12_rent 11 = .ok (.ifCond .eq 15, 3) := by decide +kernel
theorem dX12_rent_14 : decode cX12_rent 14 = .ok (.iload_n 2, 1) := by decide +kernel
theorem dX12_rent_15 : decode cX12_rent 15 = .ok (.i2l, 1) := by decide +kernel
theorem dX12_rent_16 : decode cX12_rent 16 = .ok (.lconst 1, 1) := by decide +kernel
theorem dX12_rent_17 : decode cX12_rent 17 = .ok (.ldc2_w 262, 3) := by decide +kernel
theorem dX12_rent_20 : decode cX12_rent 20 = .ok (.invokestatic 123, 3) := by decide +kernel
theorem dX12_rent_23 : decode cX12_rent 23 = .ok (.ifCond .ne 5, 3) := by decide +kernel
theorem dX12_rent_26 : decode cX12_rent 26 = .ok (.iconst (-1), 1) := by decide +kernel
theorem dX12_rent_27 : decode cX12_rent 27 = .ok (.ireturn, 1) := by decide +kernel
theorem dX12_rent_28 : decode cX12_rent 28 = .ok (.iload_n 1, 1) := by decide +kernel
theorem dX12_rent_29 : decode cX12_rent 29 = .ok (.istore_n 3, 1) := by decide +kernel
theorem dX12_rent_30 : decode cX12_rent 30 = .ok (.iconst 0, 1) := by decide +kernel
theorem dX12_rent_31 : decode cX12_rent 31 = .ok (.istore 4, 2) := by decide +kernel
theorem dX12_rent_33 : decode cX12_rent 33 = .ok (.iload 4, 2) := by decide +kernel
theorem dX12_rent_35 : decode cX12_rent 35 = .ok (.iload_n 2, 1) := by decide +kernel
theorem dX12_rent_36 : decode cX12_rent 36 = .ok (.if_icmp .ge 30, 3) := by decide +kernel
theorem dX12_rent_39 : decode cX12_rent 39 = .ok (.aload_n 0, 1) := by decide +kernel
theorem dX12_rent_40 : decode cX12_rent 40 = .ok (.iload_n 3, 1) := by decide +kernel
theorem dX12_rent_41 : decode cX12_rent 41 = .ok (.iload_n 3, 1) := by decide +kernel
theorem dX12_rent_42 : decode cX12_rent 42 = .ok (.bipush 10, 2) := by decide +kernel
theorem dX12_rent_44 : decode cX12_rent 44 = .ok (.if_icmp .ge 7, 3) := by decide +kernel
theorem dX12_rent_47 : decode cX12_rent 47 = .ok (.iconst 1, 1) := by decide +kernel
theorem dX12_rent_48 : decode cX12_rent 48 = .ok (.goto 7, 3) := by decide +kernel
theorem dX12_rent_51 : decode cX12_rent 51 = .ok (.iload_n 3, 1) := by decide +kernel
theorem dX12_rent_52 : decode cX12_rent 52 = .ok (.bipush 10, 2) := by decide +kernel
theorem dX12_rent_54 : decode cX12_rent 54 = .ok (.idiv, 1) := by decide +kernel
theorem dX12_rent_55 : decode cX12_rent 55 = .ok (.iadd, 1) := by decide +kernel
theorem dX12_rent_56 : decode cX12_rent 56 = .ok (.invokevirtual 197, 3) := by decide +kernel
theorem dX12_rent_59 : decode cX12_rent 59 = .ok (.istore_n 3, 1) := by decide +kernel
theorem dX12_rent_60 : decode cX12_rent 60 = .ok (.iinc 4 1, 3) := by decide +kernel
theorem dX12_rent_63 : decode cX12_rent 63 = .ok (.goto (-30), 3) := by decide +kernel
theorem dX12_rent_66 : decode cX12_rent 66 = .ok (.iload_n 3, 1) := by decide +kernel
theorem dX12_rent_67 : decode cX12_rent 67 = .ok (.ireturn, 1) := by decide +kernel
theorem dX12_tax_0 : decode cX12_tax 0 = .ok (.iload_n 1, 1) := by decide +kernel
theorem dX12_tax_1 : decode cX12_tax 1 = .ok (.i2l, 1) := by decide +kernel
theorem dX12_tax_2 : decode cX12_tax 2 = .ok (.lconst 0, 1) := by decide +kernel
theorem dX12_tax_3 : decode cX12_tax 3 = .ok (.ldc2_w 145, 3) := by decide +kernel
theorem dX12_tax_6 : decode cX12_tax 6 = .ok (.invokestatic 123, 3) := by decide +kernel
theorem dX12_tax_9 : decode cX12_tax 9 = .ok (.ifCond .eq 14, 3) := by decide +kernel
theorem dX12_tax_12 : decode cX12_tax 12 = .ok (.aload_n 0, 1) := by decide +kernel
theorem dX12_tax_13 : decode cX12_tax 13 = .ok (.iload_n 1, 1) := by decide +kernel
theorem dX12_tax_14 : decode cX12_tax 14 = .ok (.bipush 10, 2) := by decide +kernel
theorem dX12_tax_16 : decode cX12_tax 16 = .ok (.idiv, 1) := by decide +kernel
theorem dX12_tax_17 : decode cX12_tax 17 = .ok (.invokevirtual 200, 3) := by decide +kernel
theorem dX12_tax_20 : decode cX12_tax 20 = .ok (.goto 4, 3) := by decide +kernel
theorem dX12_tax_23 : decode cX12_tax 23 = .ok (.iconst (-1), 1) := by decide +kernel
theorem dX12_tax_24 : decode cX12_tax 24 = .ok (.ireturn, 1) := by decide +kernel
theorem dX12_rounded_0 : decode cX12_rounded 0 = .ok (.iload_n 1, 1) := by decide +kernel
theorem dX12_rounded_1 : decode cX12_rounded 1 = .ok (.i2l, 1) := by decide +kernel
theorem dX12_rounded_2 : decode cX12_rounded 2 = .ok (.lconst 0, 1) := by decide +kernel
theorem dX12_rounded_3 : decode cX12_rounded 3 = .ok (.ldc2_w 145, 3) := by decide +kernel
theorem dX12_rounded_6 : decode cX12_rounded 6 = .ok (.invokestatic 123, 3) := by decide +kernel
theorem dX12_rounded_9 : decode cX12_rounded 9 = .ok (.ifCond .eq 13, 3) := by decide +kernel
theorem dX12_rounded_12 : decode cX12_rounded 12 = .ok (.iload_n 2, 1) := by decide +kernel
theorem dX12_rounded_13 : decode cX12_rounded 13 = .ok (.i2l, 1) := by decide +kernel
theorem dX12_rounded_14 : decode cX12_rounded 14 = .ok (.lconst 0, 1) := by decide +kernel
theorem dX12_rounded_15 : decode cX12_rounded 15 = .ok (.lconst 1, 1) := by decide +kernel
theorem dX12_rounded_16 : decode cX12_rounded 16 = .ok (.invokestatic 123, 3) := by decide +kernel
theorem dX12_rounded_19 : decode cX12_rounded 19 = .ok (.ifCond .ne 5, 3) := by decide +kernel
theorem dX12_rounded_22 : decode cX12_rounded 22 = .ok (.iconst (-1), 1) := by decide +kernel
theorem dX12_rounded_23 : decode cX12_rounded 23 = .ok (.ireturn, 1) := by decide +kernel
theorem dX12_rounded_24 : decode cX12_rounded 24 = .ok (.iload_n 2, 1) := by decide +kernel
theorem dX12_rounded_25 : decode cX12_rounded 25 = .ok (.iconst 1, 1) := by decide +kernel
theorem dX12_rounded_26 : decode cX12_rounded 26 = .ok (.if_icmp .ne 11, 3) := by decide +kernel
theorem dX12_rounded_29 : decode cX12_rounded 29 = .ok (.aload_n 0, 1) := by decide +kernel
theorem dX12_rounded_30 : decode cX12_rounded 30 = .ok (.iload_n 1, 1) := by decide +kernel
theorem dX12_rounded_31 : decode cX12_rounded 31 = .ok (.invokevirtual 197, 3) := by decide +kernel
theorem dX12_rounded_34 : decode cX12_rounded 34 = .ok (.goto 8, 3) := by decide +kernel
theorem dX12_rounded_37 : decode cX12_rounded 37 = .ok (.aload_n 0, 1) := by decide +kernel
theorem dX12_rounded_38 : decode cX12_rounded 38 = .ok (.iload_n 1, 1) := by decide +kernel
theorem dX12_rounded_39 : decode cX12_rounded 39 = .ok (.invokevirtual 200, 3) := by decide +kernel
theorem dX12_rounded_42 : decode cX12_rounded 42 = .ok (.istore_n 3, 1) := by decide +kernel
theorem dX12_rounded_43 : decode cX12_rounded 43 = .ok (.iload_n 3, 1) := by decide +kernel
theorem dX12_rounded_44 : decode cX12_rounded 44 = .ok (.ifCond .ge 8, 3) := by decide +kernel
theorem dX12_rounded_47 : decode cX12_rounded 47 = .ok (.bipush (-2), 2) := by decide +kernel
theorem dX12_rounded_49 : decode cX12_rounded 49 = .ok (.goto 9, 3) := by decide +kernel
theorem dX12_rounded_52 : decode cX12_rounded 52 = .ok (.iload_n 3, 1) := by decide +kernel
theorem dX12_rounded_53 : decode cX12_rounded 53 = .ok (.iload_n 1, 1) := by decide +kernel
theorem dX12_rounded_54 : decode cX12_rounded 54 = .ok (.isub, 1) := by decide +kernel
theorem dX12_rounded_55 : decode cX12_rounded 55 = .ok (.invokestatic 264, 3) := by decide +kernel
theorem dX12_rounded_58 : decode cX12_rounded 58 = .ok (.ireturn, 1) := by decide +kernel
theorem dX12_goesShare_0 : decode cX12_goesShare 0 = .ok (.iload_n 2, 1) := by decide +kernel
theorem dX12_goesShare_1 : decode cX12_goesShare 1 = .ok (.ifCond .ne 7, 3) := by decide +kernel
theorem dX12_goesShare_4 : decode cX12_goesShare 4 = .ok (.iload_n 3, 1) := by decide +kernel
theorem dX12_goesShare_5 : decode cX12_goesShare 5 = .ok (.goto 9, 3) := by decide +kernel
theorem dX12_goesShare_8 : decode cX12_goesShare 8 = .ok (.aload_n 0, 1) := by decide +kernel
theorem dX12_goesShare_9 : decode cX12_goesShare 9 = .ok (.getfield 53, 3) := by decide +kernel
theorem dX12_goesShare_12 : decode cX12_goesShare 12 = .ok (.iconst 0, 1) := by decide +kernel
theorem dX12_goesShare_13 : decode cX12_goesShare 13 = .ok (.iaload, 1) := by decide +kernel
theorem dX12_goesShare_14 : decode cX12_goesShare 14 = .ok (.istore 5, 2) := by decide +kernel
theorem dX12_goesShare_16 : decode cX12_goesShare 16 = .ok (.iload_n 2, 1) := by decide +kernel
theorem dX12_goesShare_17 : decode cX12_goesShare 17 = .ok (.iload_n 1, 1) := by decide +kernel
theorem dX12_goesShare_18 : decode cX12_goesShare 18 = .ok (.iconst 1, 1) := by decide +kernel
theorem dX12_goesShare_19 : decode cX12_goesShare 19 = .ok (.isub, 1) := by decide +kernel
theorem dX12_goesShare_20 : decode cX12_goesShare 20 = .ok (.if_icmp .ne 93, 3) := by decide +kernel
theorem dX12_goesShare_23 : decode cX12_goesShare 23 = .ok (.iload 4, 2) := by decide +kernel
theorem dX12_goesShare_25 : decode cX12_goesShare 25 = .ok (.iload_n 3, 1) := by decide +kernel
theorem dX12_goesShare_26 : decode cX12_goesShare 26 = .ok (.if_icmp .lt 86, 3) := by decide +kernel
theorem dX12_goesShare_29 : decode cX12_goesShare 29 = .ok (.iload 4, 2) := by decide +kernel
theorem dX12_goesShare_31 : decode cX12_goesShare 31 = .ok (.sipush 600, 3) := by decide +kernel
theorem dX12_goesShare_34 : decode cX12_goesShare 34 = .ok (.if_icmp .gt 78, 3) := by decide +kernel
theorem dX12_goesShare_37 : decode cX12_goesShare 37 = .ok (.aload_n 0, 1) := by decide +kernel
theorem dX12_goesShare_38 : decode cX12_goesShare 38 = .ok (.getfield 30, 3) := by decide +kernel
theorem dX12_goesShare_41 : decode cX12_goesShare 41 = .ok (.iload 4, 2) := by decide +kernel
theorem dX12_goesShare_43 : decode cX12_goesShare 43 = .ok (.baload, 1) := by decide +kernel
theorem dX12_goesShare_44 : decode cX12_goesShare 44 = .ok (.ifCond .eq 68, 3) := by decide +kernel
theorem dX12_goesShare_47 : decode cX12_goesShare 47 = .ok (.aload_n 0, 1) := by decide +kernel
theorem dX12_goesShare_48 : decode cX12_goesShare 48 = .ok (.getfield 267, 3) := by decide +kernel
theorem dX12_goesShare_51 : decode cX12_goesShare 51 = .ok (.ifCond .lt 15, 3) := by decide +kernel
theorem dX12_goesShare_54 : decode cX12_goesShare 54 = .ok (.iload 4, 2) := by decide +kernel
theorem dX12_goesShare_56 : decode cX12_goesShare 56 = .ok (.iload 5, 2) := by decide +kernel
theorem dX12_goesShare_58 : decode cX12_goesShare 58 = .ok (.isub, 1) := by decide +kernel
theorem dX12_goesShare_59 : decode cX12_goesShare 59 = .ok (.aload_n 0, 1) := by decide +kernel
theorem dX12_goesShare_60 : decode cX12_goesShare 60 = .ok (.getfield 267, 3) := by decide +kernel
theorem dX12_goesShare_63 : decode cX12_goesShare 63 = .ok (.if_icmp .ge 49, 3) := by decide +kernel
theorem dX12_goesShare_66 : decode cX12_goesShare 66 = .ok (.aload_n 0, 1) := by decide +kernel
theorem dX12_goesShare_67 : decode cX12_goesShare 67 = .ok (.getfield 53, 3) := by decide +kernel
theorem dX12_goesShare_70 : decode cX12_goesShare 70 = .ok (.iload_n 2, 1) := by decide +kernel
theorem dX12_goesShare_71 : decode cX12_goesShare 71 = .ok (.iload 4, 2) := by decide +kernel
theorem dX12_goesShare_73 : decode cX12_goesShare 73 = .ok (.iastore, 1) := by decide +kernel
theorem dX12_goesShare_74 : decode cX12_goesShare 74 = .ok (.aload_n 0, 1) := by decide +kernel
theorem dX12_goesShare_75 : decode cX12_goesShare 75 = .ok (.iload 4, 2) := by decide +kernel
theorem dX12_goesShare_77 : decode cX12_goesShare 77 = .ok (.iload 5, 2) := by decide +kernel
theorem dX12_goesShare_79 : decode cX12_goesShare 79 = .ok (.isub, 1) := by decide +kernel
theorem dX12_goesShare_80 : decode cX12_goesShare 80 = .ok (.putfield 267, 3) := by decide +kernel
theorem dX12_goesShare_83 : decode cX12_goesShare 83 = .ok (.iconst 0, 1) := by decide +kernel
theorem dX12_goesShare_84 : decode cX12_goesShare 84 = .ok (.istore 6, 2) := by decide +kernel
theorem dX12_goesShare_86 : decode cX12_goesShare 86 = .ok (.iload 6, 2) := by decide +kernel
theorem dX12_goesShare_88 : decode cX12_goesShare 88 = .ok (.iload_n 1, 1) := by decide +kernel
theorem dX12_goesShare_89 : decode cX12_goesShare 89 = .ok (.if_icmp .ge 23, 3) := by decide +kernel
theorem dX12_goesShare_92 : decode cX12_goesShare 92 = .ok (.aload_n 0, 1) := by decide +kernel
theorem dX12_goesShare_93 : decode cX12_goesShare 93 = .ok (.getfield 56, 3) := by decide +kernel
theorem dX12_goesShare_96 : decode cX12_goesShare 96 = .ok (.iload 6, 2) := by decide +kernel
theorem dX12_goesShare_98 : decode cX12_goesShare 98 = .ok (.aload_n 0, 1) := by decide +kernel
theorem dX12_goesShare_99 : decode cX12_goesShare 99 = .ok (.getfield 53, 3) := by decide +kernel
theorem dX12_goesShare_102 : decode cX12_goesShare 102 = .ok (.iload 6, 2) := by decide +kernel
theorem dX12_goesShare_104 : decode cX12_goesShare 104 = .ok (.iaload, 1) := by decide +kernel
theorem dX12_goesShare_105 : decode cX12_goesShare 105 = .ok (.iastore, 1) := by decide +kernel
theorem dX12_goesShare_106 : decode cX12_goesShare 106 = .ok (.iinc 6 1, 3) := by decide +kernel
theorem dX12_goesShare_109 : decode cX12_goesShare 109 = .ok (.goto (-23), 3) := by decide +kernel
theorem dX12_goesShare_112 : decode cX12_goesShare 112 = .ok (.return_, 1) := by decide +kernel
theorem dX12_goesShare_113 : decode cX12_goesShare 113 = .ok (.iload_n 3, 1) := by decide +kernel
theorem dX12_goesShare_114 : decode cX12_goesShare 114 = .ok (.istore 6, 2) := by decide +kernel
theorem dX12_goesShare_116 : decode cX12_goesShare 116 = .ok (.iload 6, 2) := by decide +kernel
theorem dX12_goesShare_118 : decode cX12_goesShare 118 = .ok (.iload_n 1, 1) := by decide +kernel
theorem dX12_goesShare_119 : decode cX12_goesShare 119 = .ok (.iload_n 2, 1) := by decide +kernel
theorem dX12_goesShare_120 : decode cX12_goesShare 120 = .ok (.isub, 1) := by decide +kernel
theorem dX12_goesShare_121 : decode cX12_goesShare 121 = .ok (.imul, 1) := by decide +kernel
theorem dX12_goesShare_122 : decode cX12_goesShare 122 = .ok (.iload 4, 2) := by decide +kernel
theorem dX12_goesShare_124 : decode cX12_goesShare 124 = .ok (.if_icmp .gt 65, 3) := by decide +kernel
theorem dX12_goesShare_127 : decode cX12_goesShare 127 = .ok (.aload_n 0, 1) := by decide +kernel
theorem dX12_goesShare_128 : decode cX12_goesShare 128 = .ok (.getfield 30, 3) := by decide +kernel
theorem dX12_goesShare_131 : decode cX12_goesShare 131 = .ok (.iload 6, 2) := by decide +kernel
theorem dX12_goesShare_133 : decode cX12_goesShare 133 = .ok (.baload, 1) := by decide +kernel
theorem dX12_goesShare_134 : decode cX12_goesShare 134 = .ok (.ifCond .eq 49, 3) := by decide +kernel
theorem dX12_goesShare_137 : decode cX12_goesShare 137 = .ok (.iload_n 2, 1) := by decide +kernel
theorem dX12_goesShare_138 : decode cX12_goesShare 138 = .ok (.ifCond .eq 22, 3) := by decide +kernel
theorem dX12_goesShare_141 : decode cX12_goesShare 141 = .ok (.aload_n 0, 1) := by decide +kernel
theorem dX12_goesShare_142 : decode cX12_goesShare 142 = .ok (.getfield 267, 3) := by decide +kernel
theorem dX12_goesShare_145 : decode cX12_goesShare 145 = .ok (.ifCond .lt 15, 3) := by decide +kernel
theorem dX12_goesShare_148 : decode cX12_goesShare 148 = .ok (.iload 6, 2) := by decide +kernel
theorem dX12_goesShare_150 : decode cX12_goesShare 150 = .ok (.iload 5, 2) := by decide +kernel
theorem dX12_goesShare_152 : decode cX12_goesShare 152 = .ok (.isub, 1) := by decide +kernel
theorem dX12_goesShare_153 : decode cX12_goesShare 153 = .ok (.aload_n 0, 1) := by decide +kernel
theorem dX12_goesShare_154 : decode cX12_goesShare 154 = .ok (.getfield 267, 3) := by decide +kernel
theorem dX12_goesShare_157 : decode cX12_goesShare 157 = .ok (.if_icmp .ge 26, 3) := by decide +kernel
theorem dX12_goesShare_160 : decode cX12_goesShare 160 = .ok (.aload_n 0, 1) := by decide +kernel
theorem dX12_goesShare_161 : decode cX12_goesShare 161 = .ok (.getfield 53, 3) := by decide +kernel
theorem dX12_goesShare_164 : decode cX12_goesShare 164 = .ok (.iload_n 2, 1) := by decide +kernel
theorem dX12_goesShare_165 : decode cX12_goesShare 165 = .ok (.iload 6, 2) := by decide +kernel
theorem dX12_goesShare_167 : decode cX12_goesShare 167 = .ok (.iastore, 1) := by decide +kernel
theorem dX12_goesShare_168 : decode cX12_goesShare 168 = .ok (.aload_n 0, 1) := by decide +kernel
theorem dX12_goesShare_169 : decode cX12_goesShare 169 = .ok (.iload_n 1, 1) := by decide +kernel
theorem dX12_goesShare_170 : decode cX12_goesShare 170 = .ok (.iload_n 2, 1) := by decide +kernel
theorem dX12_goesShare_171 : decode cX12_goesShare 171 = .ok (.iconst 1, 1) := by decide +kernel
theorem dX12_goesShare_172 : decode cX12_goesShare 172 = .ok (.iadd, 1) := by decide +kernel
theorem dX12_goesShare_173 : decode cX12_goesShare 173 = .ok (.iload 6, 2) := by decide +kernel
theorem dX12_goesShare_175 : decode cX12_goesShare 175 = .ok (.iload 4, 2) := by decide +kernel
theorem dX12_goesShare_177 : decode cX12_goesShare 177 = .ok (.iload 6, 2) := by decide +kernel
theorem dX12_goesShare_179 : decode cX12_goesShare 179 = .ok (.isub, 1) := by decide +kernel
theorem dX12_goesShare_180 : decode cX12_goesShare 180 = .ok (.invokevirtual 270, 3) := by decide +kernel
theorem dX12_goesShare_183 : decode cX12_goesShare 183 = .ok (.iinc 6 1, 3) := by decide +kernel
theorem dX12_goesShare_186 : decode cX12_goesShare 186 = .ok (.goto (-70), 3) := by decide +kernel
theorem dX12_goesShare_189 : decode cX12_goesShare 189 = .ok (.return_, 1) := by decide +kernel
theorem dX12_shares_0 : decode cX12_shares 0 = .ok (.iload_n 1, 1) := by decide +kernel
theorem dX12_shares_1 : decode cX12_shares 1 = .ok (.i2l, 1) := by decide +kernel
theorem dX12_shares_2 : decode cX12_shares 2 = .ok (.lconst 1, 1) := by decide +kernel
theorem dX12_shares_3 : decode cX12_shares 3 = .ok (.ldc2_w 274, 3) := by decide +kernel
theorem dX12_shares_6 : decode cX12_shares 6 = .ok (.invokestatic 123, 3) := by decide +kernel
theorem dX12_shares_9 : decode cX12_shares 9 = .ok (.ifCond .eq 32, 3) := by decide +kernel
theorem dX12_shares_12 : decode cX12_shares 12 = .ok (.iload_n 2, 1) := by decide +kernel
theorem dX12_shares_13 : decode cX12_shares 13 = .ok (.i2l, 1) := by decide +kernel
theorem dX12_shares_14 : decode cX12_shares 14 = .ok (.ldc2_w 90, 3) := by decide +kernel
theorem dX12_shares_17 : decode cX12_shares 17 = .ok (.ldc2_w 115, 3) := by decide +kernel
theorem dX12_shares_20 : decode cX12_shares 20 = .ok (.invokestatic 123, 3) := by decide +kernel
theorem dX12_shares_23 : decode cX12_shares 23 = .ok (.ifCond .eq 18, 3) := by decide +kernel
theorem dX12_shares_26 : decode cX12_shares 26 = .ok (.iload_n 3, 1) := by decide +kernel
theorem dX12_shares_27 : decode cX12_shares 27 = .ok (.i2l, 1) := by decide +kernel
theorem dX12_shares_28 : decode cX12_shares 28 = .ok (.ldc2_w 276, 3) := by decide +kernel
theorem dX12_shares_31 : decode cX12_shares 31 = .ok (.iload_n 2, 1) := by decide +kernel
theorem dX12_shares_32 : decode cX12_shares 32 = .ok (.iconst 1, 1) := by decide +kernel
theorem dX12_shares_33 : decode cX12_shares 33 = .ok (.isub, 1) := by decide +kernel
theorem dX12_shares_34 : decode cX12_shares 34 = .ok (.i2l, 1) := by decide +kernel
theorem dX12_shares_35 : decode cX12_shares 35 = .ok (.invokestatic 123, 3) := by decide +kernel
theorem dX12_shares_38 : decode cX12_shares 38 = .ok (.ifCond .ne 5, 3) := by decide +kernel
theorem dX12_shares_41 : decode cX12_shares 41 = .ok (.iconst (-1), 1) := by decide +kernel
theorem dX12_shares_42 : decode cX12_shares 42 = .ok (.ireturn, 1) := by decide +kernel
theorem dX12_shares_43 : decode cX12_shares 43 = .ok (.aload_n 0, 1) := by decide +kernel
theorem dX12_shares_44 : decode cX12_shares 44 = .ok (.iload_n 1, 1) := by decide +kernel
theorem dX12_shares_45 : decode cX12_shares 45 = .ok (.invokevirtual 159, 3) := by decide +kernel
theorem dX12_shares_48 : decode cX12_shares 48 = .ok (.aload_n 0, 1) := by decide +kernel
theorem dX12_shares_49 : decode cX12_shares 49 = .ok (.iconst (-1), 1) := by decide +kernel
theorem dX12_shares_50 : decode cX12_shares 50 = .ok (.putfield 267, 3) := by decide +kernel
theorem dX12_shares_53 : decode cX12_shares 53 = .ok (.aload_n 0, 1) := by decide +kernel
theorem dX12_shares_54 : decode cX12_shares 54 = .ok (.iload_n 2, 1) := by decide +kernel
theorem dX12_shares_55 : decode cX12_shares 55 = .ok (.iconst 0, 1) := by decide +kernel
theorem dX12_shares_56 : decode cX12_shares 56 = .ok (.iconst 2, 1) := by decide +kernel
theorem dX12_shares_57 : decode cX12_shares 57 = .ok (.iload_n 1, 1) := by decide +kernel
theorem dX12_shares_58 : decode cX12_shares 58 = .ok (.invokevirtual 270, 3) := by decide +kernel
theorem dX12_shares_61 : decode cX12_shares 61 = .ok (.aload_n 0, 1) := by decide +kernel
theorem dX12_shares_62 : decode cX12_shares 62 = .ok (.getfield 267, 3) := by decide +kernel
theorem dX12_shares_65 : decode cX12_shares 65 = .ok (.ifCond .ge 8, 3) := by decide +kernel
theorem dX12_shares_68 : decode cX12_shares 68 = .ok (.bipush (-2), 2) := by decide +kernel
theorem dX12_shares_70 : decode cX12_shares 70 = .ok (.goto 21, 3) := by decide +kernel
theorem dX12_shares_73 : decode cX12_shares 73 = .ok (.iload_n 3, 1) := by decide +kernel
theorem dX12_shares_74 : decode cX12_shares 74 = .ok (.iconst (-1), 1) := by decide +kernel
theorem dX12_shares_75 : decode cX12_shares 75 = .ok (.if_icmp .ne 10, 3) := by decide +kernel
theorem dX12_shares_78 : decode cX12_shares 78 = .ok (.aload_n 0, 1) := by decide +kernel
theorem dX12_shares_79 : decode cX12_shares 79 = .ok (.getfield 267, 3) := by decide +kernel
theorem dX12_shares_82 : decode cX12_shares 82 = .ok (.goto 9, 3) := by decide +kernel
theorem dX12_shares_85 : decode cX12_shares 85 = .ok (.aload_n 0, 1) := by decide +kernel
theorem dX12_shares_86 : decode cX12_shares 86 = .ok (.getfield 56, 3) := by decide +kernel
theorem dX12_shares_89 : decode cX12_shares 89 = .ok (.iload_n 3, 1) := by decide +kernel
theorem dX12_shares_90 : decode cX12_shares 90 = .ok (.iaload, 1) := by decide +kernel
theorem dX12_shares_91 : decode cX12_shares 91 = .ok (.ireturn, 1) := by decide +kernel
theorem dX12_isPerson_0 : decode cX12_isPerson 0 = .ok (.iload_n 0, 1) := by decide +kernel
theorem dX12_isPerson_1 : decode cX12_isPerson 1 = .ok (.i2l, 1) := by decide +kernel
theorem dX12_isPerson_2 : decode cX12_isPerson 2 = .ok (.lconst 0, 1) := by decide +kernel
theorem dX12_isPerson_3 : decode cX12_isPerson 3 = .ok (.ldc2_w 278, 3) := by decide +kernel
theorem dX12_isPerson_6 : decode cX12_isPerson 6 = .ok (.invokestatic 123, 3) := by decide +kernel
theorem dX12_isPerson_9 : decode cX12_isPerson 9 = .ok (.ireturn, 1) := by decide +kernel
theorem dX12_isAb_0 : decode cX12_isAb 0 = .ok (.iload_n 0, 1) := by decide +kernel
theorem dX12_isAb_1 : decode cX12_isAb 1 = .ok (.ifCond .lt 38, 3) := by decide +kernel
theorem dX12_isAb_4 : decode cX12_isAb 4 = .ok (.iload_n 0, 1) := by decide +kernel
theorem dX12_isAb_5 : decode cX12_isAb 5 = .ok (.bipush 10, 2) := by decide +kernel
theorem dX12_isAb_7 : decode cX12_isAb 7 = .ok (.idiv, 1) := by decide +kernel
theorem dX12_isAb_8 : decode cX12_isAb 8 = .ok (.invokestatic 280, 3) := by decide +kernel
theorem dX12_isAb_11 : decode cX12_isAb 11 = .ok (.ifCond .eq 28, 3) := by decide +kernel
theorem dX12_isAb_14 : decode cX12_isAb 14 = .ok (.iload_n 0, 1) := by decide +kernel
theorem dX12_isAb_15 : decode cX12_isAb 15 = .ok (.bipush 10, 2) := by decide +kernel
theorem dX12_isAb_17 : decode cX12_isAb 17 = .ok (.irem, 1) := by decide +kernel
theorem dX12_isAb_18 : decode cX12_isAb 18 = .ok (.invokestatic 280, 3) := by decide +kernel
theorem dX12_isAb_21 : decode cX12_isAb 21 = .ok (.ifCond .eq 18, 3) := by decide +kernel
theorem dX12_isAb_24 : decode cX12_isAb 24 = .ok (.iload_n 0, 1) := by decide +kernel
theorem dX12_isAb_25 : decode cX12_isAb 25 = .ok (.bipush 10, 2) := by decide +kernel
theorem dX12_isAb_27 : decode cX12_isAb 27 = .ok (.idiv, 1) := by decide +kernel
theorem dX12_isAb_28 : decode cX12_isAb 28 = .ok (.iload_n 0, 1) := by decide +kernel
theorem dX12_isAb_29 : decode cX12_isAb 29 = .ok (.bipush 10, 2) := by decide +kernel
theorem dX12_isAb_31 : decode cX12_isAb 31 = .ok (.irem, 1) := by decide +kernel
theorem dX12_isAb_32 : decode cX12_isAb 32 = .ok (.if_icmp .eq 7, 3) := by decide +kernel
theorem dX12_isAb_35 : decode cX12_isAb 35 = .ok (.iconst 1, 1) := by decide +kernel
theorem dX12_isAb_36 : decode cX12_isAb 36 = .ok (.goto 4, 3) := by decide +kernel
theorem dX12_isAb_39 : decode cX12_isAb 39 = .ok (.iconst 0, 1) := by decide +kernel
theorem dX12_isAb_40 : decode cX12_isAb 40 = .ok (.ireturn, 1) := by decide +kernel
theorem dX12_debtOf_0 : decode cX12_debtOf 0 = .ok (.aload_n 0, 1) := by decide +kernel
theorem dX12_debtOf_1 : decode cX12_debtOf 1 = .ok (.getfield 9, 3) := by decide +kernel
theorem dX12_debtOf_4 : decode cX12_debtOf 4 = .ok (.bipush 8, 2) := by decide +kernel
theorem dX12_debtOf_6 : decode cX12_debtOf 6 = .ok (.iload_n 1, 1) := by decide +kernel
theorem dX12_debtOf_7 : decode cX12_debtOf 7 = .ok (.imul, 1) := by decide +kernel
theorem dX12_debtOf_8 : decode cX12_debtOf 8 = .ok (.iload_n 2, 1) := by decide +kernel
theorem dX12_debtOf_9 : decode cX12_debtOf 9 = .ok (.iadd, 1) := by decide +kernel
theorem dX12_debtOf_10 : decode cX12_debtOf 10 = .ok (.iaload, 1) := by decide +kernel
theorem dX12_debtOf_11 : decode cX12_debtOf 11 = .ok (.ireturn, 1) := by decide +kernel
theorem dX12_debt_0 : decode cX12_debt 0 = .ok (.iload_n 1, 1) := by decide +kernel
theorem dX12_debt_1 : decode cX12_debt 1 = .ok (.invokestatic 283, 3) := by decide +kernel
theorem dX12_debt_4 : decode cX12_debt 4 = .ok (.ifCond .eq 35, 3) := by decide +kernel
theorem dX12_debt_7 : decode cX12_debt 7 = .ok (.iload_n 2, 1) := by decide +kernel
theorem dX12_debt_8 : decode cX12_debt 8 = .ok (.i2l, 1) := by decide +kernel
theorem dX12_debt_9 : decode cX12_debt 9 = .ok (.lconst 0, 1) := by decide +kernel
theorem dX12_debt_10 : decode cX12_debt 10 = .ok (.ldc2_w 286, 3) := by decide +kernel
theorem dX12_debt_13 : decode cX12_debt 13 = .ok (.invokestatic 123, 3) := by decide +kernel
theorem dX12_debt_16 : decode cX12_debt 16 = .ok (.ifCond .eq 23, 3) := by decide +kernel
theorem dX12_debt_19 : decode cX12_debt 19 = .ok (.aload_n 0, 1) := by decide +kernel
theorem dX12_debt_20 : decode cX12_debt 20 = .ok (.bipush 8, 2) := by decide +kernel
theorem dX12_debt_22 : decode cX12_debt 22 = .ok (.iload_n 1, 1) := by decide +kernel
theorem dX12_debt_23 : decode cX12_debt 23 = .ok (.bipush 10, 2) := by decide +kernel
theorem dX12_debt_25 : decode cX12_debt 25 = .ok (.idiv, 1) := by decide +kernel
theorem dX12_debt_26 : decode cX12_debt 26 = .ok (.imul, 1) := by decide +kernel
theorem dX12_debt_27 : decode cX12_debt 27 = .ok (.iload_n 1, 1) := by decide +kernel
theorem dX12_debt_28 : decode cX12_debt 28 = .ok (.bipush 10, 2) := by decide +kernel
theorem dX12_debt_30 : decode cX12_debt 30 = .ok (.irem, 1) := by decide +kernel
theorem dX12_debt_31 : decode cX12_debt 31 = .ok (.iadd, 1) := by decide +kernel
theorem dX12_debt_32 : decode cX12_debt 32 = .ok (.iload_n 2, 1) := by decide +kernel
theorem dX12_debt_33 : decode cX12_debt 33 = .ok (.invokevirtual 180, 3) := by decide +kernel
theorem dX12_debt_36 : decode cX12_debt 36 = .ok (.goto 4, 3) := by decide +kernel
theorem dX12_debt_39 : decode cX12_debt 39 = .ok (.iconst (-1), 1) := by decide +kernel
theorem dX12_debt_40 : decode cX12_debt 40 = .ok (.ireturn, 1) := by decide +kernel
theorem dX12_netOf_0 : decode cX12_netOf 0 = .ok (.iconst 0, 1) := by decide +kernel
theorem dX12_netOf_1 : decode cX12_netOf 1 = .ok (.istore_n 2, 1) := by decide +kernel
theorem dX12_netOf_2 : decode cX12_netOf 2 = .ok (.iconst 0, 1) := by decide +kernel
theorem dX12_netOf_3 : decode cX12_netOf 3 = .ok (.istore_n 3, 1) := by decide +kernel
theorem dX12_netOf_4 : decode cX12_netOf 4 = .ok (.iload_n 3, 1) := by decide +kernel
theorem dX12_netOf_5 : decode cX12_netOf 5 = .ok (.bipush 8, 2) := by decide +kernel
theorem dX12_netOf_7 : decode cX12_netOf 7 = .ok (.if_icmp .ge 25, 3) := by decide +kernel
theorem dX12_netOf_10 : decode cX12_netOf 10 = .ok (.iload_n 2, 1) := by decide +kernel
theorem dX12_netOf_11 : decode cX12_netOf 11 = .ok (.aload_n 0, 1) := by decide +kernel
theorem dX12_netOf_12 : decode cX12_netOf 12 = .ok (.iload_n 3, 1) := by decide +kernel
theorem dX12_netOf_13 : decode cX12_netOf 13 = .ok (.iload_n 1, 1) := by decide +kernel
theorem dX12_netOf_14 : decode cX12_netOf 14 = .ok (.invokevirtual 288, 3) := by decide +kernel
theorem dX12_netOf_17 : decode cX12_netOf 17 = .ok (.aload_n 0, 1) := by decide +kernel
theorem dX12_netOf_18 : decode cX12_netOf 18 = .ok (.iload_n 1, 1) := by decide +kernel
theorem dX12_netOf_19 : decode cX12_netOf 19 = .ok (.iload_n 3, 1) := by decide +kernel
theorem dX12_netOf_20 : decode cX12_netOf 20 = .ok (.invokevirtual 288, 3) := by decide +kernel
theorem dX12_netOf_23 : decode cX12_netOf 23 = .ok (.isub, 1) := by decide +kernel
theorem dX12_netOf_24 : decode cX12_netOf 24 = .ok (.iadd, 1) := by decide +kernel
theorem dX12_netOf_25 : decode cX12_netOf 25 = .ok (.istore_n 2, 1) := by decide +kernel
theorem dX12_netOf_26 : decode cX12_netOf 26 = .ok (.iinc 3 1, 3) := by decide +kernel
theorem dX12_netOf_29 : decode cX12_netOf 29 = .ok (.goto (-25), 3) := by decide +kernel
theorem dX12_netOf_32 : decode cX12_netOf 32 = .ok (.iload_n 2, 1) := by decide +kernel
theorem dX12_netOf_33 : decode cX12_netOf 33 = .ok (.ireturn, 1) := by decide +kernel
theorem dX12_owes_0 : decode cX12_owes 0 = .ok (.iload_n 1, 1) := by decide +kernel
theorem dX12_owes_1 : decode cX12_owes 1 = .ok (.ifCond .ge 23, 3) := by decide +kernel
theorem dX12_owes_4 : decode cX12_owes 4 = .ok (.iload_n 1, 1) := by decide +kernel
theorem dX12_owes_5 : decode cX12_owes 5 = .ok (.bipush (-8), 2) := by decide +kernel
theorem dX12_owes_7 : decode cX12_owes 7 = .ok (.if_icmp .lt 13, 3) := by decide +kernel
theorem dX12_owes_10 : decode cX12_owes 10 = .ok (.aload_n 0, 1) := by decide +kernel
theorem dX12_owes_11 : decode cX12_owes 11 = .ok (.iconst (-1), 1) := by decide +kernel
theorem dX12_owes_12 : decode cX12_owes 12 = .ok (.iload_n 1, 1) := by decide +kernel
theorem dX12_owes_13 : decode cX12_owes 13 = .ok (.isub, 1) := by decide +kernel
theorem dX12_owes_14 : decode cX12_owes 14 = .ok (.invokevirtual 291, 3) := by decide +kernel
theorem dX12_owes_17 : decode cX12_owes 17 = .ok (.goto 6, 3) := by decide +kernel
theorem dX12_owes_20 : decode cX12_owes 20 = .ok (.ldc_w 259, 3) := by decide +kernel
theorem dX12_owes_23 : decode cX12_owes 23 = .ok (.ireturn, 1) := by decide +kernel
theorem dX12_owes_24 : decode cX12_owes 24 = .ok (.iload_n 1, 1) := by decide +kernel
theorem dX12_owes_25 : decode cX12_owes 25 = .ok (.invokestatic 283, 3) := by decide +kernel
theorem dX12_owes_28 : decode cX12_owes 28 = .ok (.ifCond .eq 18, 3) := by decide +kernel
theorem dX12_owes_31 : decode cX12_owes 31 = .ok (.aload_n 0, 1) := by decide +kernel
theorem dX12_owes_32 : decode cX12_owes 32 = .ok (.iload_n 1, 1) := by decide +kernel
theorem dX12_owes_33 : decode cX12_owes 33 = .ok (.bipush 10, 2) := by decide +kernel
theorem dX12_owes_35 : decode cX12_owes 35 = .ok (.idiv, 1) := by decide +kernel
theorem dX12_owes_36 : decode cX12_owes 36 = .ok (.iload_n 1, 1) := by decide +kernel
theorem dX12_owes_37 : decode cX12_owes 37 = .ok (.bipush 10, 2) := by decide +kernel
theorem dX12_owes_39 : decode cX12_owes 39 = .ok (.irem, 1) := by decide +kernel
theorem dX12_owes_40 : decode cX12_owes 40 = .ok (.invokevirtual 288, 3) := by decide +kernel
theorem dX12_owes_43 : decode cX12_owes 43 = .ok (.goto 6, 3) := by decide +kernel
theorem dX12_owes_46 : decode cX12_owes 46 = .ok (.ldc_w 259, 3) := by decide +kernel
theorem dX12_owes_49 : decode cX12_owes 49 = .ok (.ireturn, 1) := by decide +kernel
theorem dX12_judge_0 : decode cX12_judge 0 = .ok (.iconst 0, 1) := by decide +kernel
theorem dX12_judge_1 : decode cX12_judge 1 = .ok (.istore_n 1, 1) := by decide +kernel
theorem dX12_judge_2 : decode cX12_judge 2 = .ok (.iload_n 1, 1) := by decide +kernel
theorem dX12_judge_3 : decode cX12_judge 3 = .ok (.bipush 8, 2) := by decide +kernel
theorem dX12_judge_5 : decode cX12_judge 5 = .ok (.if_icmp .ge 53, 3) := by decide +kernel
theorem dX12_judge_8 : decode cX12_judge 8 = .ok (.iconst 0, 1) := by decide +kernel
theorem dX12_judge_9 : decode cX12_judge 9 = .ok (.istore_n 2, 1) := by decide +kernel
theorem dX12_judge_10 : decode cX12_judge 10 = .ok (.iload_n 2, 1) := by decide +kernel
theorem dX12_judge_11 : decode cX12_judge 11 = .ok (.bipush 8, 2) := by decide +kernel
theorem dX12_judge_13 : decode cX12_judge 13 = .ok (.if_icmp .ge 39, 3) := by decide +kernel
theorem dX12_judge_16 : decode cX12_judge 16 = .ok (.aload_n 0, 1) := by decide +kernel
theorem dX12_judge_17 : decode cX12_judge 17 = .ok (.iload_n 1, 1) := by decide +kernel
theorem dX12_judge_18 : decode cX12_judge 18 = .ok (.iload_n 2, 1) := by decide +kernel
theorem dX12_judge_19 : decode cX12_judge 19 = .ok (.invokevirtual 288, 3) := by decide +kernel
theorem dX12_judge_22 : decode cX12_judge 22 = .ok (.ifCond .le 24, 3) := by decide +kernel
theorem dX12_judge_25 : decode cX12_judge 25 = .ok (.aload_n 0, 1) := by decide +kernel
theorem dX12_judge_26 : decode cX12_judge 26 = .ok (.aload_n 0, 1) := by decide +kernel
theorem dX12_judge_27 : decode cX12_judge 27 = .ok (.iload_n 1, 1) := by decide +kernel
theorem dX12_judge_28 : decode cX12_judge 28 = .ok (.iload_n 2, 1) := by decide +kernel
theorem dX12_judge_29 : decode cX12_judge 29 = .ok (.invokevirtual 288, 3) := by decide +kernel
theorem dX12_judge_32 : decode cX12_judge 32 = .ok (.i2l, 1) := by decide +kernel
theorem dX12_judge_33 : decode cX12_judge 33 = .ok (.invokevirtual 135, 3) := by decide +kernel
theorem dX12_judge_36 : decode cX12_judge 36 = .ok (.ifCond .ne 10, 3) := by decide +kernel
theorem dX12_judge_39 : decode cX12_judge 39 = .ok (.bipush 10, 2) := by decide +kernel
theorem dX12_judge_41 : decode cX12_judge 41 = .ok (.iload_n 1, 1) := by decide +kernel
theorem dX12_judge_42 : decode cX12_judge 42 = .ok (.imul, 1) := by decide +kernel
theorem dX12_judge_43 : decode cX12_judge 43 = .ok (.iload_n 2, 1) := by decide +kernel
theorem dX12_judge_44 : decode cX12_judge 44 = .ok (.iadd, 1) := by decide +kernel
theorem dX12_judge_45 : decode cX12_judge 45 = .ok (.ireturn, 1) := by decide +kernel
theorem dX12_judge_46 : decode cX12_judge 46 = .ok (.iinc 2 1, 3) := by decide +kernel
theorem dX12_judge_49 : decode cX12_judge 49 = .ok (.goto (-39), 3) := by decide +kernel
theorem dX12_judge_52 : decode cX12_judge 52 = .ok (.iinc 1 1, 3) := by decide +kernel
theorem dX12_judge_55 : decode cX12_judge 55 = .ok (.goto (-53), 3) := by decide +kernel
theorem dX12_judge_58 : decode cX12_judge 58 = .ok (.bipush (-2), 2) := by decide +kernel
theorem dX12_judge_60 : decode cX12_judge 60 = .ok (.ireturn, 1) := by decide +kernel
theorem dX12_findRound_0 : decode cX12_findRound 0 = .ok (.aload_n 0, 1) := by decide +kernel
theorem dX12_findRound_1 : decode cX12_findRound 1 = .ok (.iconst 0, 1) := by decide +kernel
theorem dX12_findRound_2 : decode cX12_findRound 2 = .ok (.putfield 294, 3) := by decide +kernel
theorem dX12_findRound_5 : decode cX12_findRound 5 = .ok (.iconst 0, 1) := by decide +kernel
theorem dX12_findRound_6 : decode cX12_findRound 6 = .ok (.istore_n 1, 1) := by decide +kernel
theorem dX12_findRound_7 : decode cX12_findRound 7 = .ok (.iload_n 1, 1) := by decide +kernel
theorem dX12_findRound_8 : decode cX12_findRound 8 = .ok (.bipush 8, 2) := by decide +kernel
theorem dX12_findRound_10 : decode cX12_findRound 10 = .ok (.if_icmp .ge 136, 3) := by decide +kernel
theorem dX12_findRound_13 : decode cX12_findRound 13 = .ok (.iconst 0, 1) := by decide +kernel
theorem dX12_findRound_14 : decode cX12_findRound 14 = .ok (.istore_n 2, 1) := by decide +kernel
theorem dX12_findRound_15 : decode cX12_findRound 15 = .ok (.iload_n 2, 1) := by decide +kernel
theorem dX12_findRound_16 : decode cX12_findRound 16 = .ok (.bipush 8, 2) := by decide +kernel
theorem dX12_findRound_18 : decode cX12_findRound 18 = .ok (.if_icmp .ge 122, 3) := by decide +kernel
theorem dX12_findRound_21 : decode cX12_findRound 21 = .ok (.iconst 0, 1) := by decide +kernel
theorem dX12_findRound_22 : decode cX12_findRound 22 = .ok (.istore_n 3, 1) := by decide +kernel
theorem dX12_findRound_23 : decode cX12_findRound 23 = .ok (.iload_n 3, 1) := by decide +kernel
theorem dX12_findRound_24 : decode cX12_findRound 24 = .ok (.bipush 8, 2) := by decide +kernel
theorem dX12_findRound_26 : decode cX12_findRound 26 = .ok (.if_icmp .ge 108, 3) := by decide +kernel
theorem dX12_findRound_29 : decode cX12_findRound 29 = .ok (.aload_n 0, 1) := by decide +kernel
theorem dX12_findRound_30 : decode cX12_findRound 30 = .ok (.iload_n 1, 1) := by decide +kernel
theorem dX12_findRound_31 : decode cX12_findRound 31 = .ok (.iload_n 2, 1) := by decide +kernel
theorem dX12_findRound_32 : decode cX12_findRound 32 = .ok (.invokevirtual 288, 3) := by decide +kernel
theorem dX12_findRound_35 : decode cX12_findRound 35 = .ok (.aload_n 0, 1) := by decide +kernel
theorem dX12_findRound_36 : decode cX12_findRound 36 = .ok (.getfield 294, 3) := by decide +kernel
theorem dX12_findRound_39 : decode cX12_findRound 39 = .ok (.if_icmp .le 95, 3) := by decide +kernel
theorem dX12_findRound_42 : decode cX12_findRound 42 = .ok (.aload_n 0, 1) := by decide +kernel
theorem dX12_findRound_43 : decode cX12_findRound 43 = .ok (.iload_n 1, 1) := by decide +kernel
theorem dX12_findRound_44 : decode cX12_findRound 44 = .ok (.iload_n 2, 1) := by decide +kernel
theorem dX12_findRound_45 : decode cX12_findRound 45 = .ok (.invokevirtual 288, 3) := by decide +kernel
theorem dX12_findRound_48 : decode cX12_findRound 48 = .ok (.aload_n 0, 1) := by decide +kernel
theorem dX12_findRound_49 : decode cX12_findRound 49 = .ok (.iload_n 2, 1) := by decide +kernel
theorem dX12_findRound_50 : decode cX12_findRound 50 = .ok (.iload_n 3, 1) := by decide +kernel
theorem dX12_findRound_51 : decode cX12_findRound 51 = .ok (.invokevirtual 288, 3) := by decide +kernel
theorem dX12_findRound_54 : decode cX12_findRound 54 = .ok (.if_icmp .ge 12, 3) := by decide +kernel
theorem dX12_findRound_57 : decode cX12_findRound 57 = .ok (.aload_n 0, 1) := by decide +kernel
theorem dX12_findRound_58 : decode cX12_findRound 58 = .ok (.iload_n 1, 1) := by decide +kernel
theorem dX12_findRound_59 : decode cX12_findRound 59 = .ok (.iload_n 2, 1) := by decide +kernel
theorem dX12_findRound_60 : decode cX12_findRound 60 = .ok (.invokevirtual 288, 3) := by decide +kernel
theorem dX12_findRound_63 : decode cX12_findRound 63 = .ok (.goto 9, 3) := by decide +kernel
theorem dX12_findRound_66 : decode cX12_findRound 66 = .ok (.aload_n 0, 1) := by decide +kernel
theorem dX12_findRound_67 : decode cX12_findRound 67 = .ok (.iload_n 2, 1) := by decide +kernel
theorem dX12_findRound_68 : decode cX12_findRound 68 = .ok (.iload_n 3, 1) := by decide +kernel
theorem dX12_findRound_69 : decode cX12_findRound 69 = .ok (.invokevirtual 288, 3) := by decide +kernel
theorem dX12_findRound_72 : decode cX12_findRound 72 = .ok (.istore 4, 2) := by decide +kernel
theorem dX12_findRound_74 : decode cX12_findRound 74 = .ok (.aload_n 0, 1) := by decide +kernel
theorem dX12_findRound_75 : decode cX12_findRound 75 = .ok (.iload_n 3, 1) := by decide +kernel
theorem dX12_findRound_76 : decode cX12_findRound 76 = .ok (.iload_n 1, 1) := by decide +kernel
theorem dX12_findRound_77 : decode cX12_findRound 77 = .ok (.invokevirtual 288, 3) := by decide +kernel
theorem dX12_findRound_80 : decode cX12_findRound 80 = .ok (.iload 4, 2) := by decide +kernel
theorem dX12_findRound_82 : decode cX12_findRound 82 = .ok (.if_icmp .ge 12, 3) := by decide +kernel
theorem dX12_findRound_85 : decode cX12_findRound 85 = .ok (.aload_n 0, 1) := by decide +kernel
theorem dX12_findRound_86 : decode cX12_findRound 86 = .ok (.iload_n 3, 1) := by decide +kernel
theorem dX12_findRound_87 : decode cX12_findRound 87 = .ok (.iload_n 1, 1) := by decide +kernel
theorem dX12_findRound_88 : decode cX12_findRound 88 = .ok (.invokevirtual 288, 3) := by decide +kernel
theorem dX12_findRound_91 : decode cX12_findRound 91 = .ok (.goto 5, 3) := by decide +kernel
theorem dX12_findRound_94 : decode cX12_findRound 94 = .ok (.iload 4, 2) := by decide +kernel
theorem dX12_findRound_96 : decode cX12_findRound 96 = .ok (.istore 4, 2) := by decide +kernel
theorem dX12_findRound_98 : decode cX12_findRound 98 = .ok (.iload 4, 2) := by decide +kernel
theorem dX12_findRound_100 : decode cX12_findRound 100 = .ok (.aload_n 0, 1) := by decide +kernel
theorem dX12_findRound_101 : decode cX12_findRound 101 = .ok (.getfield 294, 3) := by decide +kernel
theorem dX12_findRound_104 : decode cX12_findRound 104 = .ok (.if_icmp .le 24, 3) := by decide +kernel
theorem dX12_findRound_107 : decode cX12_findRound 107 = .ok (.aload_n 0, 1) := by decide +kernel
theorem dX12_findRound_108 : decode cX12_findRound 108 = .ok (.iload 4, 2) := by decide +kernel
theorem dX12_findRound_110 : decode cX12_findRound 110 = .ok (.putfield 294, 3) := by decide +kernel
theorem dX12_findRound_113 : decode cX12_findRound 113 = .ok (.aload_n 0, 1) := by decide +kernel
theorem dX12_findRound_114 : decode cX12_findRound 114 = .ok (.bipush 100, 2) := by decide +kernel
theorem dX12_findRound_116 : decode cX12_findRound 116 = .ok (.iload_n 1, 1) := by decide +kernel
theorem dX12_findRound_117 : decode cX12_findRound 117 = .ok (.imul, 1) := by decide +kernel
theorem dX12_findRound_118 : decode cX12_findRound 118 = .ok (.bipush 10, 2) := by decide +kernel
theorem dX12_findRound_120 : decode cX12_findRound 120 = .ok (.iload_n 2, 1) := by decide +kernel
theorem dX12_findRound_121 : decode cX12_findRound 121 = .ok (.imul, 1) := by decide +kernel
theorem dX12_findRound_122 : decode cX12_findRound 122 = .ok (.iadd, 1) := by decide +kernel
theorem dX12_findRound_123 : decode cX12_findRound 123 = .ok (.iload_n 3, 1) := by decide +kernel
theorem dX12_findRound_124 : decode cX12_findRound 124 = .ok (.iadd, 1) := by decide +kernel
theorem dX12_findRound_125 : decode cX12_findRound 125 = .ok (.putfield 297, 3) := by decide +kernel
theorem dX12_findRound_128 : decode cX12_findRound 128 = .ok (.iinc 3 1, 3) := by decide +kernel
theorem dX12_findRound_131 : decode cX12_findRound 131 = .ok (.goto (-108), 3) := by decide +kernel
theorem dX12_findRound_134 : decode cX12_findRound 134 = .ok (.iinc 2 1, 3) := by decide +kernel
theorem dX12_findRound_137 : decode cX12_findRound 137 = .ok (.goto (-122), 3) := by decide +kernel
theorem dX12_findRound_140 : decode cX12_findRound 140 = .ok (.iinc 1 1, 3) := by decide +kernel
theorem dX12_findRound_143 : decode cX12_findRound 143 = .ok (.goto (-136), 3) := by decide +kernel
theorem dX12_findRound_146 : decode cX12_findRound 146 = .ok (.return_, 1) := by decide +kernel
theorem dX12_takesOff_0 : decode cX12_takesOff 0 = .ok (.aload_n 0, 1) := by decide +kernel
theorem dX12_takesOff_1 : decode cX12_takesOff 1 = .ok (.bipush 8, 2) := by decide +kernel
theorem dX12_takesOff_3 : decode cX12_takesOff 3 = .ok (.iload_n 1, 1) := by decide +kernel
theorem dX12_takesOff_4 : decode cX12_takesOff 4 = .ok (.imul, 1) := by decide +kernel
theorem dX12_takesOff_5 : decode cX12_takesOff 5 = .ok (.iload_n 2, 1) := by decide +kernel
theorem dX12_takesOff_6 : decode cX12_takesOff 6 = .ok (.iadd, 1) := by decide +kernel
theorem dX12_takesOff_7 : decode cX12_takesOff 7 = .ok (.aload_n 0, 1) := by decide +kernel
theorem dX12_takesOff_8 : decode cX12_takesOff 8 = .ok (.iload_n 1, 1) := by decide +kernel
theorem dX12_takesOff_9 : decode cX12_takesOff 9 = .ok (.iload_n 2, 1) := by decide +kernel
theorem dX12_takesOff_10 : decode cX12_takesOff 10 = .ok (.invokevirtual 288, 3) := by decide +kernel
theorem dX12_takesOff_13 : decode cX12_takesOff 13 = .ok (.aload_n 0, 1) := by decide +kernel
theorem dX12_takesOff_14 : decode cX12_takesOff 14 = .ok (.getfield 294, 3) := by decide +kernel
theorem dX12_takesOff_17 : decode cX12_takesOff 17 = .ok (.isub, 1) := by decide +kernel
theorem dX12_takesOff_18 : decode cX12_takesOff 18 = .ok (.invokevirtual 180, 3) := by decide +kernel
theorem dX12_takesOff_21 : decode cX12_takesOff 21 = .ok (.istore_n 3, 1) := by decide +kernel
theorem dX12_takesOff_22 : decode cX12_takesOff 22 = .ok (.return_, 1) := by decide +kernel
theorem dX12_round_0 : decode cX12_round 0 = .ok (.iconst 0, 1) := by decide +kernel
theorem dX12_round_1 : decode cX12_round 1 = .ok (.istore_n 1, 1) := by decide +kernel
theorem dX12_round_2 : decode cX12_round 2 = .ok (.aload_n 0, 1) := by decide +kernel
theorem dX12_round_3 : decode cX12_round 3 = .ok (.invokevirtual 300, 3) := by decide +kernel
theorem dX12_round_6 : decode cX12_round 6 = .ok (.aload_n 0, 1) := by decide +kernel
theorem dX12_round_7 : decode cX12_round 7 = .ok (.getfield 294, 3) := by decide +kernel
theorem dX12_round_10 : decode cX12_round 10 = .ok (.ifCond .le 61, 3) := by decide +kernel
theorem dX12_round_13 : decode cX12_round 13 = .ok (.aload_n 0, 1) := by decide +kernel
theorem dX12_round_14 : decode cX12_round 14 = .ok (.getfield 297, 3) := by decide +kernel
theorem dX12_round_17 : decode cX12_round 17 = .ok (.bipush 100, 2) := by decide +kernel
theorem dX12_round_19 : decode cX12_round 19 = .ok (.idiv, 1) := by decide +kernel
theorem dX12_round_20 : decode cX12_round 20 = .ok (.istore_n 2, 1) := by decide +kernel
theorem dX12_round_21 : decode cX12_round 21 = .ok (.aload_n 0, 1) := by decide +kernel
theorem dX12_round_22 : decode cX12_round 22 = .ok (.getfield 297, 3) := by decide +kernel
theorem dX12_round_25 : decode cX12_round 25 = .ok (.bipush 10, 2) := by decide +kernel
theorem dX12_round_27 : decode cX12_round 27 = .ok (.idiv, 1) := by decide +kernel
theorem dX12_round_28 : decode cX12_round 28 = .ok (.bipush 10, 2) := by decide +kernel
theorem dX12_round_30 : decode cX12_round 30 = .ok (.irem, 1) := by decide +kernel
theorem dX12_round_31 : decode cX12_round 31 = .ok (.istore_n 3, 1) := by decide +kernel
theorem dX12_round_32 : decode cX12_round 32 = .ok (.aload_n 0, 1) := by decide +kernel
theorem dX12_round_33 : decode cX12_round 33 = .ok (.getfield 297, 3) := by decide +kernel
theorem dX12_round_36 : decode cX12_round 36 = .ok (.bipush 10, 2) := by decide +kernel
theorem dX12_round_38 : decode cX12_round 38 = .ok (.irem, 1) := by decide +kernel
theorem dX12_round_39 : decode cX12_round 39 = .ok (.istore 4, 2) := by decide +kernel
theorem dX12_round_41 : decode cX12_round 41 = .ok (.aload_n 0, 1) := by decide +kernel
theorem dX12_round_42 : decode cX12_round 42 = .ok (.iload_n 2, 1) := by decide +kernel
theorem dX12_round_43 : decode cX12_round 43 = .ok (.iload_n 3, 1) := by decide +kernel
theorem dX12_round_44 : decode cX12_round 44 = .ok (.invokevirtual 303, 3) := by decide +kernel
theorem dX12_round_47 : decode cX12_round 47 = .ok (.aload_n 0, 1) := by decide +kernel
theorem dX12_round_48 : decode cX12_round 48 = .ok (.iload_n 3, 1) := by decide +kernel
theorem dX12_round_49 : decode cX12_round 49 = .ok (.iload 4, 2) := by decide +kernel
theorem dX12_round_51 : decode cX12_round 51 = .ok (.invokevirtual 303, 3) := by decide +kernel
theorem dX12_round_54 : decode cX12_round 54 = .ok (.aload_n 0, 1) := by decide +kernel
theorem dX12_round_55 : decode cX12_round 55 = .ok (.iload 4, 2) := by decide +kernel
theorem dX12_round_57 : decode cX12_round 57 = .ok (.iload_n 2, 1) := by decide +kernel
theorem dX12_round_58 : decode cX12_round 58 = .ok (.invokevirtual 303, 3) := by decide +kernel
theorem dX12_round_61 : decode cX12_round 61 = .ok (.iinc 1 1, 3) := by decide +kernel
theorem dX12_round_64 : decode cX12_round 64 = .ok (.aload_n 0, 1) := by decide +kernel
theorem dX12_round_65 : decode cX12_round 65 = .ok (.invokevirtual 300, 3) := by decide +kernel
theorem dX12_round_68 : decode cX12_round 68 = .ok (.goto (-62), 3) := by decide +kernel
theorem dX12_round_71 : decode cX12_round 71 = .ok (.iload_n 1, 1) := by decide +kernel
theorem dX12_round_72 : decode cX12_round 72 = .ok (.ireturn, 1) := by decide +kernel
theorem dX12_struck_0 : decode cX12_struck 0 = .ok (.iconst 0, 1) := by decide +kernel
theorem dX12_struck_1 : decode cX12_struck 1 = .ok (.istore_n 1, 1) := by decide +kernel
theorem dX12_struck_2 : decode cX12_struck 2 = .ok (.iconst 0, 1) := by decide +kernel
theorem dX12_struck_3 : decode cX12_struck 3 = .ok (.istore_n 2, 1) := by decide +kernel
theorem dX12_struck_4 : decode cX12_struck 4 = .ok (.iload_n 2, 1) := by decide +kernel
theorem dX12_struck_5 : decode cX12_struck 5 = .ok (.bipush 64, 2) := by decide +kernel
theorem dX12_struck_7 : decode cX12_struck 7 = .ok (.if_icmp .ge 61, 3) := by decide +kernel
theorem dX12_struck_10 : decode cX12_struck 10 = .ok (.aload_n 0, 1) := by decide +kernel
theorem dX12_struck_11 : decode cX12_struck 11 = .ok (.getfield 9, 3) := by decide +kernel
theorem dX12_struck_14 : decode cX12_struck 14 = .ok (.iload_n 2, 1) := by decide +kernel
theorem dX12_struck_15 : decode cX12_struck 15 = .ok (.iaload, 1) := by decide +kernel
theorem dX12_struck_16 : decode cX12_struck 16 = .ok (.ifCond .le 46, 3) := by decide +kernel
theorem dX12_struck_19 : decode cX12_struck 19 = .ok (.aload_n 0, 1) := by decide +kernel
theorem dX12_struck_20 : decode cX12_struck 20 = .ok (.aload_n 0, 1) := by decide +kernel
theorem dX12_struck_21 : decode cX12_struck 21 = .ok (.getfield 9, 3) := by decide +kernel
theorem dX12_struck_24 : decode cX12_struck 24 = .ok (.iload_n 2, 1) := by decide +kernel
theorem dX12_struck_25 : decode cX12_struck 25 = .ok (.iaload, 1) := by decide +kernel
theorem dX12_struck_26 : decode cX12_struck 26 = .ok (.i2l, 1) := by decide +kernel
theorem dX12_struck_27 : decode cX12_struck 27 = .ok (.invokevirtual 135, 3) := by decide +kernel
theorem dX12_struck_30 : decode cX12_struck 30 = .ok (.ifCond .ne 32, 3) := by decide +kernel
theorem dX12_struck_33 : decode cX12_struck 33 = .ok (.aload_n 0, 1) := by decide +kernel
theorem dX12_struck_34 : decode cX12_struck 34 = .ok (.aload_n 0, 1) := by decide +kernel
theorem dX12_struck_35 : decode cX12_struck 35 = .ok (.getfield 9, 3) := by decide +kernel
theorem dX12_struck_38 : decode cX12_struck 38 = .ok (.iload_n 2, 1) := by decide +kernel
theorem dX12_struck_39 : decode cX12_struck 39 = .ok (.iaload, 1) := by decide +kernel
theorem dX12_struck_40 : decode cX12_struck 40 = .ok (.invokevirtual 197, 3) := by decide +kernel
theorem dX12_struck_43 : decode cX12_struck 43 = .ok (.istore_n 3, 1) := by decide +kernel
theorem dX12_struck_44 : decode cX12_struck 44 = .ok (.iload_n 3, 1) := by decide +kernel
theorem dX12_struck_45 : decode cX12_struck 45 = .ok (.ifCond .ge 6, 3) := by decide +kernel
theorem dX12_struck_48 : decode cX12_struck 48 = .ok (.bipush (-2), 2) := by decide +kernel
