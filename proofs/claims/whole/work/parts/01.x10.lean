theorem dX12_struck_50 : decode cX12_struck 50 = .ok (.ireturn, 1) := by decide +kernel
theorem dX12_struck_51 : decode cX12_struck 51 = .ok (.iload_n 1, 1) := by decide +kernel
theorem dX12_struck_52 : decode cX12_struck 52 = .ok (.iload_n 3, 1) := by decide +kernel
theorem dX12_struck_53 : decode cX12_struck 53 = .ok (.aload_n 0, 1) := by decide +kernel
theorem dX12_struck_54 : decode cX12_struck 54 = .ok (.getfield 9, 3) := by decide +kernel
theorem dX12_struck_57 : decode cX12_struck 57 = .ok (.iload_n 2, 1) := by decide +kernel
theorem dX12_struck_58 : decode cX12_struck 58 = .ok (.iaload, 1) := by decide +kernel
theorem dX12_struck_59 : decode cX12_struck 59 = .ok (.isub, 1) := by decide +kernel
theorem dX12_struck_60 : decode cX12_struck 60 = .ok (.iadd, 1) := by decide +kernel
theorem dX12_struck_61 : decode cX12_struck 61 = .ok (.istore_n 1, 1) := by decide +kernel
theorem dX12_struck_62 : decode cX12_struck 62 = .ok (.iinc 2 1, 3) := by decide +kernel
theorem dX12_struck_65 : decode cX12_struck 65 = .ok (.goto (-61), 3) := by decide +kernel
theorem dX12_struck_68 : decode cX12_struck 68 = .ok (.iload_n 1, 1) := by decide +kernel
theorem dX12_struck_69 : decode cX12_struck 69 = .ok (.ireturn, 1) := by decide +kernel
theorem dX12_settle_0 : decode cX12_settle 0 = .ok (.iload_n 1, 1) := by decide +kernel
theorem dX12_settle_1 : decode cX12_settle 1 = .ok (.i2l, 1) := by decide +kernel
theorem dX12_settle_2 : decode cX12_settle 2 = .ok (.lconst 0, 1) := by decide +kernel
theorem dX12_settle_3 : decode cX12_settle 3 = .ok (.lconst 1, 1) := by decide +kernel
theorem dX12_settle_4 : decode cX12_settle 4 = .ok (.invokestatic 123, 3) := by decide +kernel
theorem dX12_settle_7 : decode cX12_settle 7 = .ok (.ifCond .ne 5, 3) := by decide +kernel
theorem dX12_settle_10 : decode cX12_settle 10 = .ok (.iconst (-1), 1) := by decide +kernel
theorem dX12_settle_11 : decode cX12_settle 11 = .ok (.ireturn, 1) := by decide +kernel
theorem dX12_settle_12 : decode cX12_settle 12 = .ok (.iconst 0, 1) := by decide +kernel
theorem dX12_settle_13 : decode cX12_settle 13 = .ok (.istore_n 2, 1) := by decide +kernel
theorem dX12_settle_14 : decode cX12_settle 14 = .ok (.iload_n 2, 1) := by decide +kernel
theorem dX12_settle_15 : decode cX12_settle 15 = .ok (.bipush 8, 2) := by decide +kernel
theorem dX12_settle_17 : decode cX12_settle 17 = .ok (.if_icmp .ge 20, 3) := by decide +kernel
theorem dX12_settle_20 : decode cX12_settle 20 = .ok (.aload_n 0, 1) := by decide +kernel
theorem dX12_settle_21 : decode cX12_settle 21 = .ok (.getfield 59, 3) := by decide +kernel
theorem dX12_settle_24 : decode cX12_settle 24 = .ok (.iload_n 2, 1) := by decide +kernel
theorem dX12_settle_25 : decode cX12_settle 25 = .ok (.aload_n 0, 1) := by decide +kernel
theorem dX12_settle_26 : decode cX12_settle 26 = .ok (.iload_n 2, 1) := by decide +kernel
theorem dX12_settle_27 : decode cX12_settle 27 = .ok (.invokevirtual 291, 3) := by decide +kernel
theorem dX12_settle_30 : decode cX12_settle 30 = .ok (.iastore, 1) := by decide +kernel
theorem dX12_settle_31 : decode cX12_settle 31 = .ok (.iinc 2 1, 3) := by decide +kernel
theorem dX12_settle_34 : decode cX12_settle 34 = .ok (.goto (-20), 3) := by decide +kernel
theorem dX12_settle_37 : decode cX12_settle 37 = .ok (.iconst 0, 1) := by decide +kernel
theorem dX12_settle_38 : decode cX12_settle 38 = .ok (.istore_n 2, 1) := by decide +kernel
theorem dX12_settle_39 : decode cX12_settle 39 = .ok (.iconst 0, 1) := by decide +kernel
theorem dX12_settle_40 : decode cX12_settle 40 = .ok (.istore_n 3, 1) := by decide +kernel
theorem dX12_settle_41 : decode cX12_settle 41 = .ok (.iconst 1, 1) := by decide +kernel
theorem dX12_settle_42 : decode cX12_settle 42 = .ok (.istore 4, 2) := by decide +kernel
theorem dX12_settle_44 : decode cX12_settle 44 = .ok (.iload 4, 2) := by decide +kernel
theorem dX12_settle_46 : decode cX12_settle 46 = .ok (.ifCond .eq 185, 3) := by decide +kernel
theorem dX12_settle_49 : decode cX12_settle 49 = .ok (.iconst 0, 1) := by decide +kernel
theorem dX12_settle_50 : decode cX12_settle 50 = .ok (.istore 5, 2) := by decide +kernel
theorem dX12_settle_52 : decode cX12_settle 52 = .ok (.iconst 0, 1) := by decide +kernel
theorem dX12_settle_53 : decode cX12_settle 53 = .ok (.istore 6, 2) := by decide +kernel
theorem dX12_settle_55 : decode cX12_settle 55 = .ok (.iconst 1, 1) := by decide +kernel
theorem dX12_settle_56 : decode cX12_settle 56 = .ok (.istore 7, 2) := by decide +kernel
theorem dX12_settle_58 : decode cX12_settle 58 = .ok (.iload 7, 2) := by decide +kernel
theorem dX12_settle_60 : decode cX12_settle 60 = .ok (.bipush 8, 2) := by decide +kernel
theorem dX12_settle_62 : decode cX12_settle 62 = .ok (.if_icmp .ge 61, 3) := by decide +kernel
theorem dX12_settle_65 : decode cX12_settle 65 = .ok (.aload_n 0, 1) := by decide +kernel
theorem dX12_settle_66 : decode cX12_settle 66 = .ok (.getfield 59, 3) := by decide +kernel
theorem dX12_settle_69 : decode cX12_settle 69 = .ok (.iload 7, 2) := by decide +kernel
theorem dX12_settle_71 : decode cX12_settle 71 = .ok (.iaload, 1) := by decide +kernel
theorem dX12_settle_72 : decode cX12_settle 72 = .ok (.aload_n 0, 1) := by decide +kernel
theorem dX12_settle_73 : decode cX12_settle 73 = .ok (.getfield 59, 3) := by decide +kernel
theorem dX12_settle_76 : decode cX12_settle 76 = .ok (.iload 5, 2) := by decide +kernel
theorem dX12_settle_78 : decode cX12_settle 78 = .ok (.iaload, 1) := by decide +kernel
theorem dX12_settle_79 : decode cX12_settle 79 = .ok (.if_icmp .ge 8, 3) := by decide +kernel
theorem dX12_settle_82 : decode cX12_settle 82 = .ok (.iload 7, 2) := by decide +kernel
theorem dX12_settle_84 : decode cX12_settle 84 = .ok (.goto 5, 3) := by decide +kernel
theorem dX12_settle_87 : decode cX12_settle 87 = .ok (.iload 5, 2) := by decide +kernel
theorem dX12_settle_89 : decode cX12_settle 89 = .ok (.istore 5, 2) := by decide +kernel
theorem dX12_settle_91 : decode cX12_settle 91 = .ok (.aload_n 0, 1) := by decide +kernel
theorem dX12_settle_92 : decode cX12_settle 92 = .ok (.getfield 59, 3) := by decide +kernel
theorem dX12_settle_95 : decode cX12_settle 95 = .ok (.iload 7, 2) := by decide +kernel
theorem dX12_settle_97 : decode cX12_settle 97 = .ok (.iaload, 1) := by decide +kernel
theorem dX12_settle_98 : decode cX12_settle 98 = .ok (.aload_n 0, 1) := by decide +kernel
theorem dX12_settle_99 : decode cX12_settle 99 = .ok (.getfield 59, 3) := by decide +kernel
theorem dX12_settle_102 : decode cX12_settle 102 = .ok (.iload 6, 2) := by decide +kernel
theorem dX12_settle_104 : decode cX12_settle 104 = .ok (.iaload, 1) := by decide +kernel
theorem dX12_settle_105 : decode cX12_settle 105 = .ok (.if_icmp .le 8, 3) := by decide +kernel
theorem dX12_settle_108 : decode cX12_settle 108 = .ok (.iload 7, 2) := by decide +kernel
theorem dX12_settle_110 : decode cX12_settle 110 = .ok (.goto 5, 3) := by decide +kernel
theorem dX12_settle_113 : decode cX12_settle 113 = .ok (.iload 6, 2) := by decide +kernel
theorem dX12_settle_115 : decode cX12_settle 115 = .ok (.istore 6, 2) := by decide +kernel
theorem dX12_settle_117 : decode cX12_settle 117 = .ok (.iinc 7 1, 3) := by decide +kernel
theorem dX12_settle_120 : decode cX12_settle 120 = .ok (.goto (-62), 3) := by decide +kernel
theorem dX12_settle_123 : decode cX12_settle 123 = .ok (.aload_n 0, 1) := by decide +kernel
theorem dX12_settle_124 : decode cX12_settle 124 = .ok (.getfield 59, 3) := by decide +kernel
theorem dX12_settle_127 : decode cX12_settle 127 = .ok (.iload 5, 2) := by decide +kernel
theorem dX12_settle_129 : decode cX12_settle 129 = .ok (.iaload, 1) := by decide +kernel
theorem dX12_settle_130 : decode cX12_settle 130 = .ok (.ifCond .ge 7, 3) := by decide +kernel
theorem dX12_settle_133 : decode cX12_settle 133 = .ok (.iconst 1, 1) := by decide +kernel
theorem dX12_settle_134 : decode cX12_settle 134 = .ok (.goto 4, 3) := by decide +kernel
theorem dX12_settle_137 : decode cX12_settle 137 = .ok (.iconst 0, 1) := by decide +kernel
theorem dX12_settle_138 : decode cX12_settle 138 = .ok (.istore 4, 2) := by decide +kernel
theorem dX12_settle_140 : decode cX12_settle 140 = .ok (.iload 4, 2) := by decide +kernel
theorem dX12_settle_142 : decode cX12_settle 142 = .ok (.ifCond .eq 86, 3) := by decide +kernel
theorem dX12_settle_145 : decode cX12_settle 145 = .ok (.aload_n 0, 1) := by decide +kernel
theorem dX12_settle_146 : decode cX12_settle 146 = .ok (.getfield 59, 3) := by decide +kernel
theorem dX12_settle_149 : decode cX12_settle 149 = .ok (.iload 5, 2) := by decide +kernel
theorem dX12_settle_151 : decode cX12_settle 151 = .ok (.iaload, 1) := by decide +kernel
theorem dX12_settle_152 : decode cX12_settle 152 = .ok (.ineg, 1) := by decide +kernel
theorem dX12_settle_153 : decode cX12_settle 153 = .ok (.aload_n 0, 1) := by decide +kernel
theorem dX12_settle_154 : decode cX12_settle 154 = .ok (.getfield 59, 3) := by decide +kernel
theorem dX12_settle_157 : decode cX12_settle 157 = .ok (.iload 6, 2) := by decide +kernel
theorem dX12_settle_159 : decode cX12_settle 159 = .ok (.iaload, 1) := by decide +kernel
theorem dX12_settle_160 : decode cX12_settle 160 = .ok (.if_icmp .ge 14, 3) := by decide +kernel
theorem dX12_settle_163 : decode cX12_settle 163 = .ok (.aload_n 0, 1) := by decide +kernel
theorem dX12_settle_164 : decode cX12_settle 164 = .ok (.getfield 59, 3) := by decide +kernel
theorem dX12_settle_167 : decode cX12_settle 167 = .ok (.iload 5, 2) := by decide +kernel
theorem dX12_settle_169 : decode cX12_settle 169 = .ok (.iaload, 1) := by decide +kernel
theorem dX12_settle_170 : decode cX12_settle 170 = .ok (.ineg, 1) := by decide +kernel
theorem dX12_settle_171 : decode cX12_settle 171 = .ok (.goto 10, 3) := by decide +kernel
theorem dX12_settle_174 : decode cX12_settle 174 = .ok (.aload_n 0, 1) := by decide +kernel
theorem dX12_settle_175 : decode cX12_settle 175 = .ok (.getfield 59, 3) := by decide +kernel
theorem dX12_settle_178 : decode cX12_settle 178 = .ok (.iload 6, 2) := by decide +kernel
theorem dX12_settle_180 : decode cX12_settle 180 = .ok (.iaload, 1) := by decide +kernel
theorem dX12_settle_181 : decode cX12_settle 181 = .ok (.istore 7, 2) := by decide +kernel
theorem dX12_settle_183 : decode cX12_settle 183 = .ok (.aload_n 0, 1) := by decide +kernel
theorem dX12_settle_184 : decode cX12_settle 184 = .ok (.getfield 59, 3) := by decide +kernel
theorem dX12_settle_187 : decode cX12_settle 187 = .ok (.iload 5, 2) := by decide +kernel
theorem dX12_settle_189 : decode cX12_settle 189 = .ok (.dup2, 1) := by decide +kernel
theorem dX12_settle_190 : decode cX12_settle 190 = .ok (.iaload, 1) := by decide +kernel
theorem dX12_settle_191 : decode cX12_settle 191 = .ok (.iload 7, 2) := by decide +kernel
theorem dX12_settle_193 : decode cX12_settle 193 = .ok (.iadd, 1) := by decide +kernel
theorem dX12_settle_194 : decode cX12_settle 194 = .ok (.iastore, 1) := by decide +kernel
theorem dX12_settle_195 : decode cX12_settle 195 = .ok (.aload_n 0, 1) := by decide +kernel
theorem dX12_settle_196 : decode cX12_settle 196 = .ok (.getfield 59, 3) := by decide +kernel
theorem dX12_settle_199 : decode cX12_settle 199 = .ok (.iload 6, 2) := by decide +kernel
theorem dX12_settle_201 : decode cX12_settle 201 = .ok (.dup2, 1) := by decide +kernel
theorem dX12_settle_202 : decode cX12_settle 202 = .ok (.iaload, 1) := by decide +kernel
theorem dX12_settle_203 : decode cX12_settle 203 = .ok (.iload 7, 2) := by decide +kernel
theorem dX12_settle_205 : decode cX12_settle 205 = .ok (.isub, 1) := by decide +kernel
theorem dX12_settle_206 : decode cX12_settle 206 = .ok (.iastore, 1) := by decide +kernel
theorem dX12_settle_207 : decode cX12_settle 207 = .ok (.iinc 2 1, 3) := by decide +kernel
theorem dX12_settle_210 : decode cX12_settle 210 = .ok (.iload_n 3, 1) := by decide +kernel
theorem dX12_settle_211 : decode cX12_settle 211 = .ok (.aload_n 0, 1) := by decide +kernel
theorem dX12_settle_212 : decode cX12_settle 212 = .ok (.iload 7, 2) := by decide +kernel
theorem dX12_settle_214 : decode cX12_settle 214 = .ok (.i2l, 1) := by decide +kernel
theorem dX12_settle_215 : decode cX12_settle 215 = .ok (.invokevirtual 135, 3) := by decide +kernel
theorem dX12_settle_218 : decode cX12_settle 218 = .ok (.ifCond .eq 7, 3) := by decide +kernel
theorem dX12_settle_221 : decode cX12_settle 221 = .ok (.iconst 1, 1) := by decide +kernel
theorem dX12_settle_222 : decode cX12_settle 222 = .ok (.goto 4, 3) := by decide +kernel
theorem dX12_settle_225 : decode cX12_settle 225 = .ok (.iconst 0, 1) := by decide +kernel
theorem dX12_settle_226 : decode cX12_settle 226 = .ok (.iadd, 1) := by decide +kernel
theorem dX12_settle_227 : decode cX12_settle 227 = .ok (.istore_n 3, 1) := by decide +kernel
theorem dX12_settle_228 : decode cX12_settle 228 = .ok (.goto (-184), 3) := by decide +kernel
theorem dX12_settle_231 : decode cX12_settle 231 = .ok (.iload_n 1, 1) := by decide +kernel
theorem dX12_settle_232 : decode cX12_settle 232 = .ok (.ifCond .ne 7, 3) := by decide +kernel
theorem dX12_settle_235 : decode cX12_settle 235 = .ok (.iload_n 2, 1) := by decide +kernel
theorem dX12_settle_236 : decode cX12_settle 236 = .ok (.goto 4, 3) := by decide +kernel
theorem dX12_settle_239 : decode cX12_settle 239 = .ok (.iload_n 3, 1) := by decide +kernel
theorem dX12_settle_240 : decode cX12_settle 240 = .ok (.ireturn, 1) := by decide +kernel
theorem dX12_looked_0 : decode cX12_looked 0 = .ok (.iload_n 1, 1) := by decide +kernel
theorem dX12_looked_1 : decode cX12_looked 1 = .ok (.invokestatic 307, 3) := by decide +kernel
theorem dX12_looked_4 : decode cX12_looked 4 = .ok (.ifCond .eq 15, 3) := by decide +kernel
theorem dX12_looked_7 : decode cX12_looked 7 = .ok (.iload_n 3, 1) := by decide +kernel
theorem dX12_looked_8 : decode cX12_looked 8 = .ok (.i2l, 1) := by decide +kernel
theorem dX12_looked_9 : decode cX12_looked 9 = .ok (.lconst 1, 1) := by decide +kernel
theorem dX12_looked_10 : decode cX12_looked 10 = .ok (.ldc2_w 310, 3) := by decide +kernel
theorem dX12_looked_13 : decode cX12_looked 13 = .ok (.invokestatic 123, 3) := by decide +kernel
theorem dX12_looked_16 : decode cX12_looked 16 = .ok (.ifCond .ne 5, 3) := by decide +kernel
theorem dX12_looked_19 : decode cX12_looked 19 = .ok (.iconst (-1), 1) := by decide +kernel
theorem dX12_looked_20 : decode cX12_looked 20 = .ok (.ireturn, 1) := by decide +kernel
theorem dX12_looked_21 : decode cX12_looked 21 = .ok (.aload_n 0, 1) := by decide +kernel
theorem dX12_looked_22 : decode cX12_looked 22 = .ok (.getfield 68, 3) := by decide +kernel
theorem dX12_looked_25 : decode cX12_looked 25 = .ok (.iload_n 1, 1) := by decide +kernel
theorem dX12_looked_26 : decode cX12_looked 26 = .ok (.iaload, 1) := by decide +kernel
theorem dX12_looked_27 : decode cX12_looked 27 = .ok (.ifCond .ge 6, 3) := by decide +kernel
theorem dX12_looked_30 : decode cX12_looked 30 = .ok (.bipush (-11), 2) := by decide +kernel
theorem dX12_looked_32 : decode cX12_looked 32 = .ok (.ireturn, 1) := by decide +kernel
theorem dX12_looked_33 : decode cX12_looked 33 = .ok (.aload_n 0, 1) := by decide +kernel
theorem dX12_looked_34 : decode cX12_looked 34 = .ok (.getfield 68, 3) := by decide +kernel
theorem dX12_looked_37 : decode cX12_looked 37 = .ok (.iload_n 1, 1) := by decide +kernel
theorem dX12_looked_38 : decode cX12_looked 38 = .ok (.iaload, 1) := by decide +kernel
theorem dX12_looked_39 : decode cX12_looked 39 = .ok (.bipush 53, 2) := by decide +kernel
theorem dX12_looked_41 : decode cX12_looked 41 = .ok (.if_icmp .eq 6, 3) := by decide +kernel
theorem dX12_looked_44 : decode cX12_looked 44 = .ok (.bipush (-12), 2) := by decide +kernel
theorem dX12_looked_46 : decode cX12_looked 46 = .ok (.ireturn, 1) := by decide +kernel
theorem dX12_looked_47 : decode cX12_looked 47 = .ok (.iload_n 2, 1) := by decide +kernel
theorem dX12_looked_48 : decode cX12_looked 48 = .ok (.ifCond .ge 6, 3) := by decide +kernel
theorem dX12_looked_51 : decode cX12_looked 51 = .ok (.bipush (-13), 2) := by decide +kernel
theorem dX12_looked_53 : decode cX12_looked 53 = .ok (.ireturn, 1) := by decide +kernel
theorem dX12_looked_54 : decode cX12_looked 54 = .ok (.iconst 0, 1) := by decide +kernel
theorem dX12_looked_55 : decode cX12_looked 55 = .ok (.istore 4, 2) := by decide +kernel
theorem dX12_looked_57 : decode cX12_looked 57 = .ok (.iload 4, 2) := by decide +kernel
theorem dX12_looked_59 : decode cX12_looked 59 = .ok (.iload_n 3, 1) := by decide +kernel
theorem dX12_looked_60 : decode cX12_looked 60 = .ok (.if_icmp .ge 69, 3) := by decide +kernel
theorem dX12_looked_63 : decode cX12_looked 63 = .ok (.iload_n 2, 1) := by decide +kernel
theorem dX12_looked_64 : decode cX12_looked 64 = .ok (.aload_n 0, 1) := by decide +kernel
theorem dX12_looked_65 : decode cX12_looked 65 = .ok (.getfield 71, 3) := by decide +kernel
theorem dX12_looked_68 : decode cX12_looked 68 = .ok (.iload_n 1, 1) := by decide +kernel
theorem dX12_looked_69 : decode cX12_looked 69 = .ok (.iaload, 1) := by decide +kernel
theorem dX12_looked_70 : decode cX12_looked 70 = .ok (.iload 4, 2) := by decide +kernel
theorem dX12_looked_72 : decode cX12_looked 72 = .ok (.isub, 1) := by decide +kernel
theorem dX12_looked_73 : decode cX12_looked 73 = .ok (.if_icmp .lt 6, 3) := by decide +kernel
theorem dX12_looked_76 : decode cX12_looked 76 = .ok (.bipush (-13), 2) := by decide +kernel
theorem dX12_looked_78 : decode cX12_looked 78 = .ok (.ireturn, 1) := by decide +kernel
theorem dX12_looked_79 : decode cX12_looked 79 = .ok (.aload_n 0, 1) := by decide +kernel
theorem dX12_looked_80 : decode cX12_looked 80 = .ok (.getfield 74, 3) := by decide +kernel
theorem dX12_looked_83 : decode cX12_looked 83 = .ok (.bipush 60, 2) := by decide +kernel
theorem dX12_looked_85 : decode cX12_looked 85 = .ok (.iload_n 1, 1) := by decide +kernel
theorem dX12_looked_86 : decode cX12_looked 86 = .ok (.imul, 1) := by decide +kernel
theorem dX12_looked_87 : decode cX12_looked 87 = .ok (.iload_n 2, 1) := by decide +kernel
theorem dX12_looked_88 : decode cX12_looked 88 = .ok (.iadd, 1) := by decide +kernel
theorem dX12_looked_89 : decode cX12_looked 89 = .ok (.iload 4, 2) := by decide +kernel
theorem dX12_looked_91 : decode cX12_looked 91 = .ok (.iadd, 1) := by decide +kernel
theorem dX12_looked_92 : decode cX12_looked 92 = .ok (.laload, 1) := by decide +kernel
theorem dX12_looked_93 : decode cX12_looked 93 = .ok (.lstore 5, 2) := by decide +kernel
theorem dX12_looked_95 : decode cX12_looked 95 = .ok (.lload 5, 2) := by decide +kernel
theorem dX12_looked_97 : decode cX12_looked 97 = .ok (.ldc2_w 90, 3) := by decide +kernel
theorem dX12_looked_100 : decode cX12_looked 100 = .ok (.ldc2_w 312, 3) := by decide +kernel
theorem dX12_looked_103 : decode cX12_looked 103 = .ok (.invokestatic 123, 3) := by decide +kernel
theorem dX12_looked_106 : decode cX12_looked 106 = .ok (.ifCond .eq 12, 3) := by decide +kernel
theorem dX12_looked_109 : decode cX12_looked 109 = .ok (.aload_n 0, 1) := by decide +kernel
theorem dX12_looked_110 : decode cX12_looked 110 = .ok (.lload 5, 2) := by decide +kernel
theorem dX12_looked_112 : decode cX12_looked 112 = .ok (.invokevirtual 135, 3) := by decide +kernel
theorem dX12_looked_115 : decode cX12_looked 115 = .ok (.ifCond .ne 8, 3) := by decide +kernel
theorem dX12_looked_118 : decode cX12_looked 118 = .ok (.iload_n 2, 1) := by decide +kernel
theorem dX12_looked_119 : decode cX12_looked 119 = .ok (.iload 4, 2) := by decide +kernel
theorem dX12_looked_121 : decode cX12_looked 121 = .ok (.iadd, 1) := by decide +kernel
theorem dX12_looked_122 : decode cX12_looked 122 = .ok (.ireturn, 1) := by decide +kernel
theorem dX12_looked_123 : decode cX12_looked 123 = .ok (.iinc 4 1, 3) := by decide +kernel
theorem dX12_looked_126 : decode cX12_looked 126 = .ok (.goto (-69), 3) := by decide +kernel
theorem dX12_looked_129 : decode cX12_looked 129 = .ok (.iload_n 2, 1) := by decide +kernel
theorem dX12_looked_130 : decode cX12_looked 130 = .ok (.iload_n 3, 1) := by decide +kernel
theorem dX12_looked_131 : decode cX12_looked 131 = .ok (.iadd, 1) := by decide +kernel
theorem dX12_looked_132 : decode cX12_looked 132 = .ok (.ireturn, 1) := by decide +kernel
theorem dX12_isBody_0 : decode cX12_isBody 0 = .ok (.iload_n 1, 1) := by decide +kernel
theorem dX12_isBody_1 : decode cX12_isBody 1 = .ok (.i2l, 1) := by decide +kernel
theorem dX12_isBody_2 : decode cX12_isBody 2 = .ok (.lconst 0, 1) := by decide +kernel
theorem dX12_isBody_3 : decode cX12_isBody 3 = .ok (.aload_n 0, 1) := by decide +kernel
theorem dX12_isBody_4 : decode cX12_isBody 4 = .ok (.getfield 314, 3) := by decide +kernel
theorem dX12_isBody_7 : decode cX12_isBody 7 = .ok (.iconst 1, 1) := by decide +kernel
theorem dX12_isBody_8 : decode cX12_isBody 8 = .ok (.isub, 1) := by decide +kernel
theorem dX12_isBody_9 : decode cX12_isBody 9 = .ok (.i2l, 1) := by decide +kernel
theorem dX12_isBody_10 : decode cX12_isBody 10 = .ok (.invokestatic 123, 3) := by decide +kernel
theorem dX12_isBody_13 : decode cX12_isBody 13 = .ok (.ireturn, 1) := by decide +kernel
theorem dX12_kindOf_0 : decode cX12_kindOf 0 = .ok (.aload_n 0, 1) := by decide +kernel
theorem dX12_kindOf_1 : decode cX12_kindOf 1 = .ok (.getfield 62, 3) := by decide +kernel
theorem dX12_kindOf_4 : decode cX12_kindOf 4 = .ok (.iload_n 1, 1) := by decide +kernel
theorem dX12_kindOf_5 : decode cX12_kindOf 5 = .ok (.iaload, 1) := by decide +kernel
theorem dX12_kindOf_6 : decode cX12_kindOf 6 = .ok (.ireturn, 1) := by decide +kernel
theorem dX12_body_0 : decode cX12_body 0 = .ok (.iload_n 1, 1) := by decide +kernel
theorem dX12_body_1 : decode cX12_body 1 = .ok (.i2l, 1) := by decide +kernel
theorem dX12_body_2 : decode cX12_body 2 = .ok (.lconst 0, 1) := by decide +kernel
theorem dX12_body_3 : decode cX12_body 3 = .ok (.ldc2_w 278, 3) := by decide +kernel
theorem dX12_body_6 : decode cX12_body 6 = .ok (.invokestatic 123, 3) := by decide +kernel
theorem dX12_body_9 : decode cX12_body 9 = .ok (.ifCond .ne 5, 3) := by decide +kernel
theorem dX12_body_12 : decode cX12_body 12 = .ok (.iconst (-1), 1) := by decide +kernel
theorem dX12_body_13 : decode cX12_body 13 = .ok (.ireturn, 1) := by decide +kernel
theorem dX12_body_14 : decode cX12_body 14 = .ok (.aload_n 0, 1) := by decide +kernel
theorem dX12_body_15 : decode cX12_body 15 = .ok (.getfield 314, 3) := by decide +kernel
theorem dX12_body_18 : decode cX12_body 18 = .ok (.bipush 50, 2) := by decide +kernel
theorem dX12_body_20 : decode cX12_body 20 = .ok (.if_icmp .ne 6, 3) := by decide +kernel
theorem dX12_body_23 : decode cX12_body 23 = .ok (.bipush (-3), 2) := by decide +kernel
theorem dX12_body_25 : decode cX12_body 25 = .ok (.ireturn, 1) := by decide +kernel
theorem dX12_body_26 : decode cX12_body 26 = .ok (.aload_n 0, 1) := by decide +kernel
theorem dX12_body_27 : decode cX12_body 27 = .ok (.getfield 62, 3) := by decide +kernel
theorem dX12_body_30 : decode cX12_body 30 = .ok (.aload_n 0, 1) := by decide +kernel
theorem dX12_body_31 : decode cX12_body 31 = .ok (.getfield 314, 3) := by decide +kernel
theorem dX12_body_34 : decode cX12_body 34 = .ok (.iload_n 1, 1) := by decide +kernel
theorem dX12_body_35 : decode cX12_body 35 = .ok (.iastore, 1) := by decide +kernel
theorem dX12_body_36 : decode cX12_body 36 = .ok (.aload_n 0, 1) := by decide +kernel
theorem dX12_body_37 : decode cX12_body 37 = .ok (.dup, 1) := by decide +kernel
theorem dX12_body_38 : decode cX12_body 38 = .ok (.getfield 314, 3) := by decide +kernel
theorem dX12_body_41 : decode cX12_body 41 = .ok (.iconst 1, 1) := by decide +kernel
theorem dX12_body_42 : decode cX12_body 42 = .ok (.iadd, 1) := by decide +kernel
theorem dX12_body_43 : decode cX12_body 43 = .ok (.putfield 314, 3) := by decide +kernel
theorem dX12_body_46 : decode cX12_body 46 = .ok (.aload_n 0, 1) := by decide +kernel
theorem dX12_body_47 : decode cX12_body 47 = .ok (.getfield 314, 3) := by decide +kernel
theorem dX12_body_50 : decode cX12_body 50 = .ok (.iconst 1, 1) := by decide +kernel
theorem dX12_body_51 : decode cX12_body 51 = .ok (.isub, 1) := by decide +kernel
theorem dX12_body_52 : decode cX12_body 52 = .ok (.ireturn, 1) := by decide +kernel
theorem dX12_above_0 : decode cX12_above 0 = .ok (.iload_n 0, 1) := by decide +kernel
theorem dX12_above_1 : decode cX12_above 1 = .ok (.iconst 3, 1) := by decide +kernel
theorem dX12_above_2 : decode cX12_above 2 = .ok (.if_icmp .ne 7, 3) := by decide +kernel
theorem dX12_above_5 : decode cX12_above 5 = .ok (.iconst 2, 1) := by decide +kernel
theorem dX12_above_6 : decode cX12_above 6 = .ok (.goto 23, 3) := by decide +kernel
theorem dX12_above_9 : decode cX12_above 9 = .ok (.iload_n 0, 1) := by decide +kernel
theorem dX12_above_10 : decode cX12_above 10 = .ok (.iconst 4, 1) := by decide +kernel
theorem dX12_above_11 : decode cX12_above 11 = .ok (.if_icmp .ne 7, 3) := by decide +kernel
theorem dX12_above_14 : decode cX12_above 14 = .ok (.iconst 1, 1) := by decide +kernel
theorem dX12_above_15 : decode cX12_above 15 = .ok (.goto 14, 3) := by decide +kernel
theorem dX12_above_18 : decode cX12_above 18 = .ok (.iload_n 0, 1) := by decide +kernel
theorem dX12_above_19 : decode cX12_above 19 = .ok (.bipush 6, 2) := by decide +kernel
theorem dX12_above_21 : decode cX12_above 21 = .ok (.if_icmp .ne 7, 3) := by decide +kernel
theorem dX12_above_24 : decode cX12_above 24 = .ok (.iconst 5, 1) := by decide +kernel
theorem dX12_above_25 : decode cX12_above 25 = .ok (.goto 4, 3) := by decide +kernel
theorem dX12_above_28 : decode cX12_above 28 = .ok (.iconst 0, 1) := by decide +kernel
theorem dX12_above_29 : decode cX12_above 29 = .ok (.ireturn, 1) := by decide +kernel
theorem dX12_begins_0 : decode cX12_begins 0 = .ok (.aload_n 0, 1) := by decide +kernel
theorem dX12_begins_1 : decode cX12_begins 1 = .ok (.getfield 317, 3) := by decide +kernel
theorem dX12_begins_4 : decode cX12_begins 4 = .ok (.bipush 24, 2) := by decide +kernel
theorem dX12_begins_6 : decode cX12_begins 6 = .ok (.if_icmp .ge 13, 3) := by decide +kernel
theorem dX12_begins_9 : decode cX12_begins 9 = .ok (.aload_n 0, 1) := by decide +kernel
theorem dX12_begins_10 : decode cX12_begins 10 = .ok (.getfield 65, 3) := by decide +kernel
theorem dX12_begins_13 : decode cX12_begins 13 = .ok (.aload_n 0, 1) := by decide +kernel
theorem dX12_begins_14 : decode cX12_begins 14 = .ok (.getfield 317, 3) := by decide +kernel
theorem dX12_begins_17 : decode cX12_begins 17 = .ok (.iload_n 1, 1) := by decide +kernel
theorem dX12_begins_18 : decode cX12_begins 18 = .ok (.iastore, 1) := by decide +kernel
theorem dX12_begins_19 : decode cX12_begins 19 = .ok (.aload_n 0, 1) := by decide +kernel
theorem dX12_begins_20 : decode cX12_begins 20 = .ok (.dup, 1) := by decide +kernel
theorem dX12_begins_21 : decode cX12_begins 21 = .ok (.getfield 317, 3) := by decide +kernel
theorem dX12_begins_24 : decode cX12_begins 24 = .ok (.iconst 1, 1) := by decide +kernel
theorem dX12_begins_25 : decode cX12_begins 25 = .ok (.iadd, 1) := by decide +kernel
theorem dX12_begins_26 : decode cX12_begins 26 = .ok (.putfield 317, 3) := by decide +kernel
theorem dX12_begins_29 : decode cX12_begins 29 = .ok (.return_, 1) := by decide +kernel
theorem dX12_paysAs_0 : decode cX12_paysAs 0 = .ok (.iload_n 1, 1) := by decide +kernel
theorem dX12_paysAs_1 : decode cX12_paysAs 1 = .ok (.iconst 1, 1) := by decide +kernel
theorem dX12_paysAs_2 : decode cX12_paysAs 2 = .ok (.if_icmp .eq 8, 3) := by decide +kernel
theorem dX12_paysAs_5 : decode cX12_paysAs 5 = .ok (.iload_n 1, 1) := by decide +kernel
theorem dX12_paysAs_6 : decode cX12_paysAs 6 = .ok (.iconst 4, 1) := by decide +kernel
theorem dX12_paysAs_7 : decode cX12_paysAs 7 = .ok (.if_icmp .ne 18, 3) := by decide +kernel
theorem dX12_paysAs_10 : decode cX12_paysAs 10 = .ok (.aload_n 0, 1) := by decide +kernel
theorem dX12_paysAs_11 : decode cX12_paysAs 11 = .ok (.bipush 20, 2) := by decide +kernel
theorem dX12_paysAs_13 : decode cX12_paysAs 13 = .ok (.invokevirtual 320, 3) := by decide +kernel
theorem dX12_paysAs_16 : decode cX12_paysAs 16 = .ok (.aload_n 0, 1) := by decide +kernel
theorem dX12_paysAs_17 : decode cX12_paysAs 17 = .ok (.iconst 0, 1) := by decide +kernel
theorem dX12_paysAs_18 : decode cX12_paysAs 18 = .ok (.iload_n 2, 1) := by decide +kernel
theorem dX12_paysAs_19 : decode cX12_paysAs 19 = .ok (.invokevirtual 323, 3) := by decide +kernel
theorem dX12_paysAs_22 : decode cX12_paysAs 22 = .ok (.iconst 3, 1) := by decide +kernel
theorem dX12_paysAs_23 : decode cX12_paysAs 23 = .ok (.iadd, 1) := by decide +kernel
theorem dX12_paysAs_24 : decode cX12_paysAs 24 = .ok (.ireturn, 1) := by decide +kernel
theorem dX12_paysAs_25 : decode cX12_paysAs 25 = .ok (.iload_n 1, 1) := by decide +kernel
theorem dX12_paysAs_26 : decode cX12_paysAs 26 = .ok (.iconst 5, 1) := by decide +kernel
theorem dX12_paysAs_27 : decode cX12_paysAs 27 = .ok (.if_icmp .eq 9, 3) := by decide +kernel
theorem dX12_paysAs_30 : decode cX12_paysAs 30 = .ok (.iload_n 1, 1) := by decide +kernel
theorem dX12_paysAs_31 : decode cX12_paysAs 31 = .ok (.bipush 6, 2) := by decide +kernel
theorem dX12_paysAs_33 : decode cX12_paysAs 33 = .ok (.if_icmp .ne 18, 3) := by decide +kernel
theorem dX12_paysAs_36 : decode cX12_paysAs 36 = .ok (.aload_n 0, 1) := by decide +kernel
theorem dX12_paysAs_37 : decode cX12_paysAs 37 = .ok (.bipush 60, 2) := by decide +kernel
theorem dX12_paysAs_39 : decode cX12_paysAs 39 = .ok (.invokevirtual 320, 3) := by decide +kernel
theorem dX12_paysAs_42 : decode cX12_paysAs 42 = .ok (.aload_n 0, 1) := by decide +kernel
theorem dX12_paysAs_43 : decode cX12_paysAs 43 = .ok (.iconst 0, 1) := by decide +kernel
theorem dX12_paysAs_44 : decode cX12_paysAs 44 = .ok (.iload_n 2, 1) := by decide +kernel
theorem dX12_paysAs_45 : decode cX12_paysAs 45 = .ok (.invokevirtual 323, 3) := by decide +kernel
theorem dX12_paysAs_48 : decode cX12_paysAs 48 = .ok (.iconst 2, 1) := by decide +kernel
theorem dX12_paysAs_49 : decode cX12_paysAs 49 = .ok (.imul, 1) := by decide +kernel
theorem dX12_paysAs_50 : decode cX12_paysAs 50 = .ok (.ireturn, 1) := by decide +kernel
theorem dX12_paysAs_51 : decode cX12_paysAs 51 = .ok (.aload_n 0, 1) := by decide +kernel
theorem dX12_paysAs_52 : decode cX12_paysAs 52 = .ok (.iconst 1, 1) := by decide +kernel
theorem dX12_paysAs_53 : decode cX12_paysAs 53 = .ok (.invokevirtual 320, 3) := by decide +kernel
theorem dX12_paysAs_56 : decode cX12_paysAs 56 = .ok (.iload_n 2, 1) := by decide +kernel
theorem dX12_paysAs_57 : decode cX12_paysAs 57 = .ok (.aload_n 0, 1) := by decide +kernel
theorem dX12_paysAs_58 : decode cX12_paysAs 58 = .ok (.getfield 326, 3) := by decide +kernel
theorem dX12_paysAs_61 : decode cX12_paysAs 61 = .ok (.iadd, 1) := by decide +kernel
theorem dX12_paysAs_62 : decode cX12_paysAs 62 = .ok (.ireturn, 1) := by decide +kernel
theorem dX12_owesAs_0 : decode cX12_owesAs 0 = .ok (.iload_n 1, 1) := by decide +kernel
theorem dX12_owesAs_1 : decode cX12_owesAs 1 = .ok (.iconst 3, 1) := by decide +kernel
theorem dX12_owesAs_2 : decode cX12_owesAs 2 = .ok (.if_icmp .ne 18, 3) := by decide +kernel
theorem dX12_owesAs_5 : decode cX12_owesAs 5 = .ok (.aload_n 0, 1) := by decide +kernel
theorem dX12_owesAs_6 : decode cX12_owesAs 6 = .ok (.bipush 41, 2) := by decide +kernel
theorem dX12_owesAs_8 : decode cX12_owesAs 8 = .ok (.invokevirtual 320, 3) := by decide +kernel
theorem dX12_owesAs_11 : decode cX12_owesAs 11 = .ok (.aload_n 0, 1) := by decide +kernel
theorem dX12_owesAs_12 : decode cX12_owesAs 12 = .ok (.iconst 2, 1) := by decide +kernel
theorem dX12_owesAs_13 : decode cX12_owesAs 13 = .ok (.iload_n 2, 1) := by decide +kernel
theorem dX12_owesAs_14 : decode cX12_owesAs 14 = .ok (.iconst 1, 1) := by decide +kernel
theorem dX12_owesAs_15 : decode cX12_owesAs 15 = .ok (.iadd, 1) := by decide +kernel
theorem dX12_owesAs_16 : decode cX12_owesAs 16 = .ok (.invokevirtual 329, 3) := by decide +kernel
theorem dX12_owesAs_19 : decode cX12_owesAs 19 = .ok (.ireturn, 1) := by decide +kernel
theorem dX12_owesAs_20 : decode cX12_owesAs 20 = .ok (.iload_n 1, 1) := by decide +kernel
theorem dX12_owesAs_21 : decode cX12_owesAs 21 = .ok (.iconst 2, 1) := by decide +kernel
theorem dX12_owesAs_22 : decode cX12_owesAs 22 = .ok (.if_icmp .ne 17, 3) := by decide +kernel
theorem dX12_owesAs_25 : decode cX12_owesAs 25 = .ok (.aload_n 0, 1) := by decide +kernel
theorem dX12_owesAs_26 : decode cX12_owesAs 26 = .ok (.bipush 30, 2) := by decide +kernel
theorem dX12_owesAs_28 : decode cX12_owesAs 28 = .ok (.invokevirtual 320, 3) := by decide +kernel
theorem dX12_owesAs_31 : decode cX12_owesAs 31 = .ok (.aload_n 0, 1) := by decide +kernel
theorem dX12_owesAs_32 : decode cX12_owesAs 32 = .ok (.iconst 0, 1) := by decide +kernel
theorem dX12_owesAs_33 : decode cX12_owesAs 33 = .ok (.iload_n 2, 1) := by decide +kernel
theorem dX12_owesAs_34 : decode cX12_owesAs 34 = .ok (.invokevirtual 329, 3) := by decide +kernel
theorem dX12_owesAs_37 : decode cX12_owesAs 37 = .ok (.ineg, 1) := by decide +kernel
theorem dX12_owesAs_38 : decode cX12_owesAs 38 = .ok (.ireturn, 1) := by decide +kernel
theorem dX12_owesAs_39 : decode cX12_owesAs 39 = .ok (.iload_n 1, 1) := by decide +kernel
theorem dX12_owesAs_40 : decode cX12_owesAs 40 = .ok (.bipush 7, 2) := by decide +kernel
theorem dX12_owesAs_42 : decode cX12_owesAs 42 = .ok (.if_icmp .ne 28, 3) := by decide +kernel
theorem dX12_owesAs_45 : decode cX12_owesAs 45 = .ok (.aload_n 0, 1) := by decide +kernel
theorem dX12_owesAs_46 : decode cX12_owesAs 46 = .ok (.bipush 80, 2) := by decide +kernel
theorem dX12_owesAs_48 : decode cX12_owesAs 48 = .ok (.invokevirtual 320, 3) := by decide +kernel
theorem dX12_owesAs_51 : decode cX12_owesAs 51 = .ok (.aload_n 0, 1) := by decide +kernel
theorem dX12_owesAs_52 : decode cX12_owesAs 52 = .ok (.iconst 0, 1) := by decide +kernel
theorem dX12_owesAs_53 : decode cX12_owesAs 53 = .ok (.iload_n 2, 1) := by decide +kernel
theorem dX12_owesAs_54 : decode cX12_owesAs 54 = .ok (.invokevirtual 329, 3) := by decide +kernel
theorem dX12_owesAs_57 : decode cX12_owesAs 57 = .ok (.istore_n 3, 1) := by decide +kernel
theorem dX12_owesAs_58 : decode cX12_owesAs 58 = .ok (.iload_n 3, 1) := by decide +kernel
theorem dX12_owesAs_59 : decode cX12_owesAs 59 = .ok (.aload_n 0, 1) := by decide +kernel
theorem dX12_owesAs_60 : decode cX12_owesAs 60 = .ok (.aload_n 0, 1) := by decide +kernel
theorem dX12_owesAs_61 : decode cX12_owesAs 61 = .ok (.getfield 332, 3) := by decide +kernel
theorem dX12_owesAs_64 : decode cX12_owesAs 64 = .ok (.iconst 2, 1) := by decide +kernel
theorem dX12_owesAs_65 : decode cX12_owesAs 65 = .ok (.invokevirtual 335, 3) := by decide +kernel
theorem dX12_owesAs_68 : decode cX12_owesAs 68 = .ok (.iadd, 1) := by decide +kernel
theorem dX12_owesAs_69 : decode cX12_owesAs 69 = .ok (.ireturn, 1) := by decide +kernel
theorem dX12_owesAs_70 : decode cX12_owesAs 70 = .ok (.aload_n 0, 1) := by decide +kernel
theorem dX12_owesAs_71 : decode cX12_owesAs 71 = .ok (.bipush 10, 2) := by decide +kernel
theorem dX12_owesAs_73 : decode cX12_owesAs 73 = .ok (.invokevirtual 320, 3) := by decide +kernel
theorem dX12_owesAs_76 : decode cX12_owesAs 76 = .ok (.aload_n 0, 1) := by decide +kernel
theorem dX12_owesAs_77 : decode cX12_owesAs 77 = .ok (.aload_n 0, 1) := by decide +kernel
theorem dX12_owesAs_78 : decode cX12_owesAs 78 = .ok (.getfield 332, 3) := by decide +kernel
theorem dX12_owesAs_81 : decode cX12_owesAs 81 = .ok (.iload_n 2, 1) := by decide +kernel
theorem dX12_owesAs_82 : decode cX12_owesAs 82 = .ok (.invokevirtual 323, 3) := by decide +kernel
theorem dX12_owesAs_85 : decode cX12_owesAs 85 = .ok (.iconst 2, 1) := by decide +kernel
theorem dX12_owesAs_86 : decode cX12_owesAs 86 = .ok (.imul, 1) := by decide +kernel
theorem dX12_owesAs_87 : decode cX12_owesAs 87 = .ok (.ireturn, 1) := by decide +kernel
theorem dX12_partsAs_0 : decode cX12_partsAs 0 = .ok (.iload_n 1, 1) := by decide +kernel
theorem dX12_partsAs_1 : decode cX12_partsAs 1 = .ok (.iconst 3, 1) := by decide +kernel
theorem dX12_partsAs_2 : decode cX12_partsAs 2 = .ok (.if_icmp .ne 18, 3) := by decide +kernel
theorem dX12_partsAs_5 : decode cX12_partsAs 5 = .ok (.aload_n 0, 1) := by decide +kernel
theorem dX12_partsAs_6 : decode cX12_partsAs 6 = .ok (.bipush 40, 2) := by decide +kernel
theorem dX12_partsAs_8 : decode cX12_partsAs 8 = .ok (.invokevirtual 320, 3) := by decide +kernel
theorem dX12_partsAs_11 : decode cX12_partsAs 11 = .ok (.aload_n 0, 1) := by decide +kernel
theorem dX12_partsAs_12 : decode cX12_partsAs 12 = .ok (.iconst 2, 1) := by decide +kernel
theorem dX12_partsAs_13 : decode cX12_partsAs 13 = .ok (.iload_n 2, 1) := by decide +kernel
theorem dX12_partsAs_14 : decode cX12_partsAs 14 = .ok (.invokevirtual 335, 3) := by decide +kernel
theorem dX12_partsAs_17 : decode cX12_partsAs 17 = .ok (.iconst 3, 1) := by decide +kernel
theorem dX12_partsAs_18 : decode cX12_partsAs 18 = .ok (.imul, 1) := by decide +kernel
theorem dX12_partsAs_19 : decode cX12_partsAs 19 = .ok (.ireturn, 1) := by decide +kernel
theorem dX12_partsAs_20 : decode cX12_partsAs 20 = .ok (.iload_n 1, 1) := by decide +kernel
theorem dX12_partsAs_21 : decode cX12_partsAs 21 = .ok (.iconst 4, 1) := by decide +kernel
theorem dX12_partsAs_22 : decode cX12_partsAs 22 = .ok (.if_icmp .ne 28, 3) := by decide +kernel
theorem dX12_partsAs_25 : decode cX12_partsAs 25 = .ok (.aload_n 0, 1) := by decide +kernel
theorem dX12_partsAs_26 : decode cX12_partsAs 26 = .ok (.bipush 50, 2) := by decide +kernel
theorem dX12_partsAs_28 : decode cX12_partsAs 28 = .ok (.invokevirtual 320, 3) := by decide +kernel
theorem dX12_partsAs_31 : decode cX12_partsAs 31 = .ok (.aload_n 0, 1) := by decide +kernel
theorem dX12_partsAs_32 : decode cX12_partsAs 32 = .ok (.iconst 1, 1) := by decide +kernel
theorem dX12_partsAs_33 : decode cX12_partsAs 33 = .ok (.iload_n 2, 1) := by decide +kernel
theorem dX12_partsAs_34 : decode cX12_partsAs 34 = .ok (.invokevirtual 335, 3) := by decide +kernel
theorem dX12_partsAs_37 : decode cX12_partsAs 37 = .ok (.istore_n 3, 1) := by decide +kernel
theorem dX12_partsAs_38 : decode cX12_partsAs 38 = .ok (.iload_n 3, 1) := by decide +kernel
theorem dX12_partsAs_39 : decode cX12_partsAs 39 = .ok (.aload_n 0, 1) := by decide +kernel
theorem dX12_partsAs_40 : decode cX12_partsAs 40 = .ok (.aload_n 0, 1) := by decide +kernel
theorem dX12_partsAs_41 : decode cX12_partsAs 41 = .ok (.getfield 332, 3) := by decide +kernel
theorem dX12_partsAs_44 : decode cX12_partsAs 44 = .ok (.iconst 2, 1) := by decide +kernel
theorem dX12_partsAs_45 : decode cX12_partsAs 45 = .ok (.invokevirtual 323, 3) := by decide +kernel
theorem dX12_partsAs_48 : decode cX12_partsAs 48 = .ok (.isub, 1) := by decide +kernel
theorem dX12_partsAs_49 : decode cX12_partsAs 49 = .ok (.ireturn, 1) := by decide +kernel
theorem dX12_partsAs_50 : decode cX12_partsAs 50 = .ok (.aload_n 0, 1) := by decide +kernel
theorem dX12_partsAs_51 : decode cX12_partsAs 51 = .ok (.bipush 11, 2) := by decide +kernel
theorem dX12_partsAs_53 : decode cX12_partsAs 53 = .ok (.invokevirtual 320, 3) := by decide +kernel
theorem dX12_partsAs_56 : decode cX12_partsAs 56 = .ok (.iload_n 2, 1) := by decide +kernel
theorem dX12_partsAs_57 : decode cX12_partsAs 57 = .ok (.aload_n 0, 1) := by decide +kernel
theorem dX12_partsAs_58 : decode cX12_partsAs 58 = .ok (.getfield 326, 3) := by decide +kernel
theorem dX12_partsAs_61 : decode cX12_partsAs 61 = .ok (.ixor, 1) := by decide +kernel
theorem dX12_partsAs_62 : decode cX12_partsAs 62 = .ok (.ireturn, 1) := by decide +kernel
theorem dX12_tellsAs_0 : decode cX12_tellsAs 0 = .ok (.iload_n 1, 1) := by decide +kernel
theorem dX12_tellsAs_1 : decode cX12_tellsAs 1 = .ok (.bipush 6, 2) := by decide +kernel
theorem dX12_tellsAs_3 : decode cX12_tellsAs 3 = .ok (.if_icmp .ne 18, 3) := by decide +kernel
theorem dX12_tellsAs_6 : decode cX12_tellsAs 6 = .ok (.aload_n 0, 1) := by decide +kernel
theorem dX12_tellsAs_7 : decode cX12_tellsAs 7 = .ok (.bipush 70, 2) := by decide +kernel
theorem dX12_tellsAs_9 : decode cX12_tellsAs 9 = .ok (.invokevirtual 320, 3) := by decide +kernel
theorem dX12_tellsAs_12 : decode cX12_tellsAs 12 = .ok (.aload_n 0, 1) := by decide +kernel
theorem dX12_tellsAs_13 : decode cX12_tellsAs 13 = .ok (.iconst 5, 1) := by decide +kernel
theorem dX12_tellsAs_14 : decode cX12_tellsAs 14 = .ok (.iload_n 2, 1) := by decide +kernel
theorem dX12_tellsAs_15 : decode cX12_tellsAs 15 = .ok (.invokevirtual 338, 3) := by decide +kernel
theorem dX12_tellsAs_18 : decode cX12_tellsAs 18 = .ok (.iconst 5, 1) := by decide +kernel
theorem dX12_tellsAs_19 : decode cX12_tellsAs 19 = .ok (.ixor, 1) := by decide +kernel
theorem dX12_tellsAs_20 : decode cX12_tellsAs 20 = .ok (.ireturn, 1) := by decide +kernel
theorem dX12_tellsAs_21 : decode cX12_tellsAs 21 = .ok (.iload_n 1, 1) := by decide +kernel
theorem dX12_tellsAs_22 : decode cX12_tellsAs 22 = .ok (.bipush 7, 2) := by decide +kernel
theorem dX12_tellsAs_24 : decode cX12_tellsAs 24 = .ok (.if_icmp .ne 18, 3) := by decide +kernel
theorem dX12_tellsAs_27 : decode cX12_tellsAs 27 = .ok (.aload_n 0, 1) := by decide +kernel
theorem dX12_tellsAs_28 : decode cX12_tellsAs 28 = .ok (.bipush 81, 2) := by decide +kernel
theorem dX12_tellsAs_30 : decode cX12_tellsAs 30 = .ok (.invokevirtual 320, 3) := by decide +kernel
theorem dX12_tellsAs_33 : decode cX12_tellsAs 33 = .ok (.aload_n 0, 1) := by decide +kernel
theorem dX12_tellsAs_34 : decode cX12_tellsAs 34 = .ok (.iconst 0, 1) := by decide +kernel
theorem dX12_tellsAs_35 : decode cX12_tellsAs 35 = .ok (.iload_n 2, 1) := by decide +kernel
theorem dX12_tellsAs_36 : decode cX12_tellsAs 36 = .ok (.invokevirtual 338, 3) := by decide +kernel
theorem dX12_tellsAs_39 : decode cX12_tellsAs 39 = .ok (.iconst 1, 1) := by decide +kernel
theorem dX12_tellsAs_40 : decode cX12_tellsAs 40 = .ok (.isub, 1) := by decide +kernel
theorem dX12_tellsAs_41 : decode cX12_tellsAs 41 = .ok (.ireturn, 1) := by decide +kernel
theorem dX12_tellsAs_42 : decode cX12_tellsAs 42 = .ok (.aload_n 0, 1) := by decide +kernel
theorem dX12_tellsAs_43 : decode cX12_tellsAs 43 = .ok (.iconst 2, 1) := by decide +kernel
theorem dX12_tellsAs_44 : decode cX12_tellsAs 44 = .ok (.invokevirtual 320, 3) := by decide +kernel
theorem dX12_tellsAs_47 : decode cX12_tellsAs 47 = .ok (.aload_n 0, 1) := by decide +kernel
theorem dX12_tellsAs_48 : decode cX12_tellsAs 48 = .ok (.aload_n 0, 1) := by decide +kernel
theorem dX12_tellsAs_49 : decode cX12_tellsAs 49 = .ok (.getfield 332, 3) := by decide +kernel
theorem dX12_tellsAs_52 : decode cX12_tellsAs 52 = .ok (.iload_n 2, 1) := by decide +kernel
theorem dX12_tellsAs_53 : decode cX12_tellsAs 53 = .ok (.invokevirtual 329, 3) := by decide +kernel
theorem dX12_tellsAs_56 : decode cX12_tellsAs 56 = .ok (.istore_n 3, 1) := by decide +kernel
theorem dX12_tellsAs_57 : decode cX12_tellsAs 57 = .ok (.iload_n 3, 1) := by decide +kernel
theorem dX12_tellsAs_58 : decode cX12_tellsAs 58 = .ok (.aload_n 0, 1) := by decide +kernel
theorem dX12_tellsAs_59 : decode cX12_tellsAs 59 = .ok (.aload_n 0, 1) := by decide +kernel
theorem dX12_tellsAs_60 : decode cX12_tellsAs 60 = .ok (.getfield 332, 3) := by decide +kernel
theorem dX12_tellsAs_63 : decode cX12_tellsAs 63 = .ok (.iconst 1, 1) := by decide +kernel
theorem dX12_tellsAs_64 : decode cX12_tellsAs 64 = .ok (.invokevirtual 335, 3) := by decide +kernel
theorem dX12_tellsAs_67 : decode cX12_tellsAs 67 = .ok (.isub, 1) := by decide +kernel
theorem dX12_tellsAs_68 : decode cX12_tellsAs 68 = .ok (.ireturn, 1) := by decide +kernel
theorem dX12_act_0 : decode cX12_act 0 = .ok (.aload_n 0, 1) := by decide +kernel
theorem dX12_act_1 : decode cX12_act 1 = .ok (.iconst 0, 1) := by decide +kernel
theorem dX12_act_2 : decode cX12_act 2 = .ok (.putfield 317, 3) := by decide +kernel
theorem dX12_act_5 : decode cX12_act 5 = .ok (.aload_n 0, 1) := by decide +kernel
theorem dX12_act_6 : decode cX12_act 6 = .ok (.iload_n 1, 1) := by decide +kernel
theorem dX12_act_7 : decode cX12_act 7 = .ok (.invokevirtual 341, 3) := by decide +kernel
theorem dX12_act_10 : decode cX12_act 10 = .ok (.ifCond .ne 5, 3) := by decide +kernel
theorem dX12_act_13 : decode cX12_act 13 = .ok (.iconst 0, 1) := by decide +kernel
theorem dX12_act_14 : decode cX12_act 14 = .ok (.ireturn, 1) := by decide +kernel
theorem dX12_act_15 : decode cX12_act 15 = .ok (.aload_n 0, 1) := by decide +kernel
theorem dX12_act_16 : decode cX12_act 16 = .ok (.aload_n 0, 1) := by decide +kernel
theorem dX12_act_17 : decode cX12_act 17 = .ok (.getfield 62, 3) := by decide +kernel
theorem dX12_act_20 : decode cX12_act 20 = .ok (.iload_n 1, 1) := by decide +kernel
theorem dX12_act_21 : decode cX12_act 21 = .ok (.iaload, 1) := by decide +kernel
theorem dX12_act_22 : decode cX12_act 22 = .ok (.putfield 332, 3) := by decide +kernel
theorem dX12_act_25 : decode cX12_act 25 = .ok (.aload_n 0, 1) := by decide +kernel
theorem dX12_act_26 : decode cX12_act 26 = .ok (.iload_n 1, 1) := by decide +kernel
theorem dX12_act_27 : decode cX12_act 27 = .ok (.putfield 326, 3) := by decide +kernel
theorem dX12_act_30 : decode cX12_act 30 = .ok (.iload_n 2, 1) := by decide +kernel
theorem dX12_act_31 : decode cX12_act 31 = .ok (.tableswitch 69 0 3 #[29, 39, 49, 59], 29) := by decide +kernel
theorem dX12_act_60 : decode cX12_act 60 = .ok (.aload_n 0, 1) := by decide +kernel
theorem dX12_act_61 : decode cX12_act 61 = .ok (.aload_n 0, 1) := by decide +kernel
theorem dX12_act_62 : decode cX12_act 62 = .ok (.getfield 332, 3) := by decide +kernel
theorem dX12_act_65 : decode cX12_act 65 = .ok (.iload_n 3, 1) := by decide +kernel
theorem dX12_act_66 : decode cX12_act 66 = .ok (.invokevirtual 323, 3) := by decide +kernel
theorem dX12_act_69 : decode cX12_act 69 = .ok (.ireturn, 1) := by decide +kernel
theorem dX12_act_70 : decode cX12_act 70 = .ok (.aload_n 0, 1) := by decide +kernel
theorem dX12_act_71 : decode cX12_act 71 = .ok (.aload_n 0, 1) := by decide +kernel
theorem dX12_act_72 : decode cX12_act 72 = .ok (.getfield 332, 3) := by decide +kernel
theorem dX12_act_75 : decode cX12_act 75 = .ok (.iload_n 3, 1) := by decide +kernel
theorem dX12_act_76 : decode cX12_act 76 = .ok (.invokevirtual 329, 3) := by decide +kernel
theorem dX12_act_79 : decode cX12_act 79 = .ok (.ireturn, 1) := by decide +kernel
theorem dX12_act_80 : decode cX12_act 80 = .ok (.aload_n 0, 1) := by decide +kernel
theorem dX12_act_81 : decode cX12_act 81 = .ok (.aload_n 0, 1) := by decide +kernel
theorem dX12_act_82 : decode cX12_act 82 = .ok (.getfield 332, 3) := by decide +kernel
theorem dX12_act_85 : decode cX12_act 85 = .ok (.iload_n 3, 1) := by decide +kernel
theorem dX12_act_86 : decode cX12_act 86 = .ok (.invokevirtual 335, 3) := by decide +kernel
theorem dX12_act_89 : decode cX12_act 89 = .ok (.ireturn, 1) := by decide +kernel
theorem dX12_act_90 : decode cX12_act 90 = .ok (.aload_n 0, 1) := by decide +kernel
theorem dX12_act_91 : decode cX12_act 91 = .ok (.aload_n 0, 1) := by decide +kernel
theorem dX12_act_92 : decode cX12_act 92 = .ok (.getfield 332, 3) := by decide +kernel
theorem dX12_act_95 : decode cX12_act 95 = .ok (.iload_n 3, 1) := by decide +kernel
theorem dX12_act_96 : decode cX12_act 96 = .ok (.invokevirtual 338, 3) := by decide +kernel
theorem dX12_act_99 : decode cX12_act 99 = .ok (.ireturn, 1) := by decide +kernel
theorem dX12_act_100 : decode cX12_act 100 = .ok (.iconst 0, 1) := by decide +kernel
theorem dX12_act_101 : decode cX12_act 101 = .ok (.ireturn, 1) := by decide +kernel
theorem dX12_trace_0 : decode cX12_trace 0 = .ok (.iload_n 1, 1) := by decide +kernel
theorem dX12_trace_1 : decode cX12_trace 1 = .ok (.ifCond .lt 26, 3) := by decide +kernel
theorem dX12_trace_4 : decode cX12_trace 4 = .ok (.iload_n 1, 1) := by decide +kernel
theorem dX12_trace_5 : decode cX12_trace 5 = .ok (.aload_n 0, 1) := by decide +kernel
theorem dX12_trace_6 : decode cX12_trace 6 = .ok (.getfield 317, 3) := by decide +kernel
theorem dX12_trace_9 : decode cX12_trace 9 = .ok (.if_icmp .ge 18, 3) := by decide +kernel
theorem dX12_trace_12 : decode cX12_trace 12 = .ok (.iload_n 1, 1) := by decide +kernel
theorem dX12_trace_13 : decode cX12_trace 13 = .ok (.bipush 24, 2) := by decide +kernel
theorem dX12_trace_15 : decode cX12_trace 15 = .ok (.if_icmp .ge 12, 3) := by decide +kernel
theorem dX12_trace_18 : decode cX12_trace 18 = .ok (.aload_n 0, 1) := by decide +kernel
theorem dX12_trace_19 : decode cX12_trace 19 = .ok (.getfield 65, 3) := by decide +kernel
theorem dX12_trace_22 : decode cX12_trace 22 = .ok (.iload_n 1, 1) := by decide +kernel
theorem dX12_trace_23 : decode cX12_trace 23 = .ok (.iaload, 1) := by decide +kernel
theorem dX12_trace_24 : decode cX12_trace 24 = .ok (.goto 4, 3) := by decide +kernel
theorem dX12_trace_27 : decode cX12_trace 27 = .ok (.iconst (-1), 1) := by decide +kernel
theorem dX12_trace_28 : decode cX12_trace 28 = .ok (.ireturn, 1) := by decide +kernel
theorem dX12_isShelf_0 : decode cX12_isShelf 0 = .ok (.iload_n 0, 1) := by decide +kernel
theorem dX12_isShelf_1 : decode cX12_isShelf 1 = .ok (.i2l, 1) := by decide +kernel
theorem dX12_isShelf_2 : decode cX12_isShelf 2 = .ok (.lconst 0, 1) := by decide +kernel
theorem dX12_isShelf_3 : decode cX12_isShelf 3 = .ok (.ldc2_w 94, 3) := by decide +kernel
theorem dX12_isShelf_6 : decode cX12_isShelf 6 = .ok (.invokestatic 123, 3) := by decide +kernel
theorem dX12_isShelf_9 : decode cX12_isShelf 9 = .ok (.ireturn, 1) := by decide +kernel
theorem dX12_keep_0 : decode cX12_keep 0 = .ok (.iload_n 1, 1) := by decide +kernel
theorem dX12_keep_1 : decode cX12_keep 1 = .ok (.invokestatic 307, 3) := by decide +kernel
theorem dX12_keep_4 : decode cX12_keep 4 = .ok (.ifCond .eq 16, 3) := by decide +kernel
theorem dX12_keep_7 : decode cX12_keep 7 = .ok (.iload_n 2, 1) := by decide +kernel
theorem dX12_keep_8 : decode cX12_keep 8 = .ok (.iconst (-1), 1) := by decide +kernel
theorem dX12_keep_9 : decode cX12_keep 9 = .ok (.if_icmp .eq 13, 3) := by decide +kernel
theorem dX12_keep_12 : decode cX12_keep 12 = .ok (.aload_n 0, 1) := by decide +kernel
theorem dX12_keep_13 : decode cX12_keep 13 = .ok (.iload_n 2, 1) := by decide +kernel
theorem dX12_keep_14 : decode cX12_keep 14 = .ok (.invokevirtual 341, 3) := by decide +kernel
theorem dX12_keep_17 : decode cX12_keep 17 = .ok (.ifCond .ne 5, 3) := by decide +kernel
theorem dX12_keep_20 : decode cX12_keep 20 = .ok (.iconst (-1), 1) := by decide +kernel
theorem dX12_keep_21 : decode cX12_keep 21 = .ok (.ireturn, 1) := by decide +kernel
theorem dX12_keep_22 : decode cX12_keep 22 = .ok (.aload_n 0, 1) := by decide +kernel
theorem dX12_keep_23 : decode cX12_keep 23 = .ok (.getfield 68, 3) := by decide +kernel
theorem dX12_keep_26 : decode cX12_keep 26 = .ok (.iload_n 1, 1) := by decide +kernel
theorem dX12_keep_27 : decode cX12_keep 27 = .ok (.iload_n 2, 1) := by decide +kernel
theorem dX12_keep_28 : decode cX12_keep 28 = .ok (.iastore, 1) := by decide +kernel
theorem dX12_keep_29 : decode cX12_keep 29 = .ok (.aload_n 0, 1) := by decide +kernel
theorem dX12_keep_30 : decode cX12_keep 30 = .ok (.getfield 71, 3) := by decide +kernel
theorem dX12_keep_33 : decode cX12_keep 33 = .ok (.iload_n 1, 1) := by decide +kernel
theorem dX12_keep_34 : decode cX12_keep 34 = .ok (.iconst 0, 1) := by decide +kernel
theorem dX12_keep_35 : decode cX12_keep 35 = .ok (.iastore, 1) := by decide +kernel
theorem dX12_keep_36 : decode cX12_keep 36 = .ok (.iconst 1, 1) := by decide +kernel
theorem dX12_keep_37 : decode cX12_keep 37 = .ok (.ireturn, 1) := by decide +kernel
theorem dX12_row_0 : decode cX12_row 0 = .ok (.iload_n 1, 1) := by decide +kernel
theorem dX12_row_1 : decode cX12_row 1 = .ok (.invokestatic 307, 3) := by decide +kernel
theorem dX12_row_4 : decode cX12_row 4 = .ok (.ifCond .eq 21, 3) := by decide +kernel
theorem dX12_row_7 : decode cX12_row 7 = .ok (.iload_n 2, 1) := by decide +kernel
theorem dX12_row_8 : decode cX12_row 8 = .ok (.i2l, 1) := by decide +kernel
theorem dX12_row_9 : decode cX12_row 9 = .ok (.lconst 0, 1) := by decide +kernel
theorem dX12_row_10 : decode cX12_row 10 = .ok (.ldc2_w 115, 3) := by decide +kernel
theorem dX12_row_13 : decode cX12_row 13 = .ok (.invokestatic 123, 3) := by decide +kernel
theorem dX12_row_16 : decode cX12_row 16 = .ok (.ifCond .eq 9, 3) := by decide +kernel
theorem dX12_row_19 : decode cX12_row 19 = .ok (.iload_n 3, 1) := by decide +kernel
theorem dX12_row_20 : decode cX12_row 20 = .ok (.bipush 60, 2) := by decide +kernel
theorem dX12_row_22 : decode cX12_row 22 = .ok (.if_icmp .le 5, 3) := by decide +kernel
theorem dX12_row_25 : decode cX12_row 25 = .ok (.iconst (-1), 1) := by decide +kernel
theorem dX12_row_26 : decode cX12_row 26 = .ok (.ireturn, 1) := by decide +kernel
theorem dX12_row_27 : decode cX12_row 27 = .ok (.iload_n 3, 1) := by decide +kernel
theorem dX12_row_28 : decode cX12_row 28 = .ok (.ifCond .ge 6, 3) := by decide +kernel
theorem dX12_row_31 : decode cX12_row 31 = .ok (.bipush (-14), 2) := by decide +kernel
theorem dX12_row_33 : decode cX12_row 33 = .ok (.ireturn, 1) := by decide +kernel
theorem dX12_row_34 : decode cX12_row 34 = .ok (.aload_n 0, 1) := by decide +kernel
theorem dX12_row_35 : decode cX12_row 35 = .ok (.getfield 68, 3) := by decide +kernel
theorem dX12_row_38 : decode cX12_row 38 = .ok (.iload_n 1, 1) := by decide +kernel
theorem dX12_row_39 : decode cX12_row 39 = .ok (.bipush 50, 2) := by decide +kernel
theorem dX12_row_41 : decode cX12_row 41 = .ok (.iload_n 2, 1) := by decide +kernel
theorem dX12_row_42 : decode cX12_row 42 = .ok (.iadd, 1) := by decide +kernel
theorem dX12_row_43 : decode cX12_row 43 = .ok (.iastore, 1) := by decide +kernel
theorem dX12_row_44 : decode cX12_row 44 = .ok (.aload_n 0, 1) := by decide +kernel
theorem dX12_row_45 : decode cX12_row 45 = .ok (.getfield 71, 3) := by decide +kernel
theorem dX12_row_48 : decode cX12_row 48 = .ok (.iload_n 1, 1) := by decide +kernel
theorem dX12_row_49 : decode cX12_row 49 = .ok (.iload_n 3, 1) := by decide +kernel
theorem dX12_row_50 : decode cX12_row 50 = .ok (.iastore, 1) := by decide +kernel
theorem dX12_row_51 : decode cX12_row 51 = .ok (.bipush 60, 2) := by decide +kernel
theorem dX12_row_53 : decode cX12_row 53 = .ok (.iload_n 1, 1) := by decide +kernel
theorem dX12_row_54 : decode cX12_row 54 = .ok (.imul, 1) := by decide +kernel
theorem dX12_row_55 : decode cX12_row 55 = .ok (.istore 4, 2) := by decide +kernel
theorem dX12_row_57 : decode cX12_row 57 = .ok (.iload 4, 2) := by decide +kernel
theorem dX12_row_59 : decode cX12_row 59 = .ok (.bipush 60, 2) := by decide +kernel
theorem dX12_row_61 : decode cX12_row 61 = .ok (.iload_n 1, 1) := by decide +kernel
theorem dX12_row_62 : decode cX12_row 62 = .ok (.imul, 1) := by decide +kernel
theorem dX12_row_63 : decode cX12_row 63 = .ok (.bipush 60, 2) := by decide +kernel
theorem dX12_row_65 : decode cX12_row 65 = .ok (.iadd, 1) := by decide +kernel
theorem dX12_row_66 : decode cX12_row 66 = .ok (.if_icmp .ge 17, 3) := by decide +kernel
theorem dX12_row_69 : decode cX12_row 69 = .ok (.aload_n 0, 1) := by decide +kernel
theorem dX12_row_70 : decode cX12_row 70 = .ok (.getfield 74, 3) := by decide +kernel
theorem dX12_row_73 : decode cX12_row 73 = .ok (.iload 4, 2) := by decide +kernel
theorem dX12_row_75 : decode cX12_row 75 = .ok (.lconst 0, 1) := by decide +kernel
theorem dX12_row_76 : decode cX12_row 76 = .ok (.lastore, 1) := by decide +kernel
theorem dX12_row_77 : decode cX12_row 77 = .ok (.iinc 4 1, 3) := by decide +kernel
theorem dX12_row_80 : decode cX12_row 80 = .ok (.goto (-23), 3) := by decide +kernel
theorem dX12_row_83 : decode cX12_row 83 = .ok (.iconst 1, 1) := by decide +kernel
theorem dX12_row_84 : decode cX12_row 84 = .ok (.ireturn, 1) := by decide +kernel
theorem dX12_refusal_0 : decode cX12_refusal 0 = .ok (.iload_n 1, 1) := by decide +kernel
theorem dX12_refusal_1 : decode cX12_refusal 1 = .ok (.invokestatic 307, 3) := by decide +kernel
theorem dX12_refusal_4 : decode cX12_refusal 4 = .ok (.ifCond .ne 5, 3) := by decide +kernel
theorem dX12_refusal_7 : decode cX12_refusal 7 = .ok (.iconst (-1), 1) := by decide +kernel
theorem dX12_refusal_8 : decode cX12_refusal 8 = .ok (.ireturn, 1) := by decide +kernel
theorem dX12_refusal_9 : decode cX12_refusal 9 = .ok (.aload_n 0, 1) := by decide +kernel
theorem dX12_refusal_10 : decode cX12_refusal 10 = .ok (.getfield 68, 3) := by decide +kernel
theorem dX12_refusal_13 : decode cX12_refusal 13 = .ok (.iload_n 1, 1) := by decide +kernel
theorem dX12_refusal_14 : decode cX12_refusal 14 = .ok (.iaload, 1) := by decide +kernel
theorem dX12_refusal_15 : decode cX12_refusal 15 = .ok (.ifCond .ge 6, 3) := by decide +kernel
theorem dX12_refusal_18 : decode cX12_refusal 18 = .ok (.bipush (-11), 2) := by decide +kernel
theorem dX12_refusal_20 : decode cX12_refusal 20 = .ok (.ireturn, 1) := by decide +kernel
theorem dX12_refusal_21 : decode cX12_refusal 21 = .ok (.aload_n 0, 1) := by decide +kernel
theorem dX12_refusal_22 : decode cX12_refusal 22 = .ok (.getfield 68, 3) := by decide +kernel
theorem dX12_refusal_25 : decode cX12_refusal 25 = .ok (.iload_n 1, 1) := by decide +kernel
theorem dX12_refusal_26 : decode cX12_refusal 26 = .ok (.iaload, 1) := by decide +kernel
theorem dX12_refusal_27 : decode cX12_refusal 27 = .ok (.bipush 50, 2) := by decide +kernel
theorem dX12_refusal_29 : decode cX12_refusal 29 = .ok (.if_icmp .ge 6, 3) := by decide +kernel
theorem dX12_refusal_32 : decode cX12_refusal 32 = .ok (.bipush (-12), 2) := by decide +kernel
theorem dX12_refusal_34 : decode cX12_refusal 34 = .ok (.ireturn, 1) := by decide +kernel
theorem dX12_refusal_35 : decode cX12_refusal 35 = .ok (.iload_n 2, 1) := by decide +kernel
theorem dX12_refusal_36 : decode cX12_refusal 36 = .ok (.ifCond .lt 17, 3) := by decide +kernel
theorem dX12_refusal_39 : decode cX12_refusal 39 = .ok (.iload_n 2, 1) := by decide +kernel
theorem dX12_refusal_40 : decode cX12_refusal 40 = .ok (.aload_n 0, 1) := by decide +kernel
theorem dX12_refusal_41 : decode cX12_refusal 41 = .ok (.getfield 71, 3) := by decide +kernel
theorem dX12_refusal_44 : decode cX12_refusal 44 = .ok (.iload_n 1, 1) := by decide +kernel
theorem dX12_refusal_45 : decode cX12_refusal 45 = .ok (.iaload, 1) := by decide +kernel
theorem dX12_refusal_46 : decode cX12_refusal 46 = .ok (.if_icmp .ge 7, 3) := by decide +kernel
theorem dX12_refusal_49 : decode cX12_refusal 49 = .ok (.iconst 0, 1) := by decide +kernel
theorem dX12_refusal_50 : decode cX12_refusal 50 = .ok (.goto 5, 3) := by decide +kernel
theorem dX12_refusal_53 : decode cX12_refusal 53 = .ok (.bipush (-13), 2) := by decide +kernel
theorem dX12_refusal_55 : decode cX12_refusal 55 = .ok (.ireturn, 1) := by decide +kernel
theorem dX12_asSort_0 : decode cX12_asSort 0 = .ok (.iload_n 0, 1) := by decide +kernel
theorem dX12_asSort_1 : decode cX12_asSort 1 = .ok (.ifCond .ne 10, 3) := by decide +kernel
theorem dX12_asSort_4 : decode cX12_asSort 4 = .ok (.lload_n 1, 1) := by decide +kernel
theorem dX12_asSort_5 : decode cX12_asSort 5 = .ok (.l2i, 1) := by decide +kernel
theorem dX12_asSort_6 : decode cX12_asSort 6 = .ok (.i2b, 1) := by decide +kernel
theorem dX12_asSort_7 : decode cX12_asSort 7 = .ok (.i2l, 1) := by decide +kernel
theorem dX12_asSort_8 : decode cX12_asSort 8 = .ok (.goto 46, 3) := by decide +kernel
theorem dX12_asSort_11 : decode cX12_asSort 11 = .ok (.iload_n 0, 1) := by decide +kernel
theorem dX12_asSort_12 : decode cX12_asSort 12 = .ok (.iconst 1, 1) := by decide +kernel
theorem dX12_asSort_13 : decode cX12_asSort 13 = .ok (.if_icmp .ne 10, 3) := by decide +kernel
theorem dX12_asSort_16 : decode cX12_asSort 16 = .ok (.lload_n 1, 1) := by decide +kernel
theorem dX12_asSort_17 : decode cX12_asSort 17 = .ok (.l2i, 1) := by decide +kernel
theorem dX12_asSort_18 : decode cX12_asSort 18 = .ok (.i2s, 1) := by decide +kernel
theorem dX12_asSort_19 : decode cX12_asSort 19 = .ok (.i2l, 1) := by decide +kernel
theorem dX12_asSort_20 : decode cX12_asSort 20 = .ok (.goto 34, 3) := by decide +kernel
theorem dX12_asSort_23 : decode cX12_asSort 23 = .ok (.iload_n 0, 1) := by decide +kernel
theorem dX12_asSort_24 : decode cX12_asSort 24 = .ok (.iconst 2, 1) := by decide +kernel
theorem dX12_asSort_25 : decode cX12_asSort 25 = .ok (.if_icmp .ne 9, 3) := by decide +kernel
theorem dX12_asSort_28 : decode cX12_asSort 28 = .ok (.lload_n 1, 1) := by decide +kernel
theorem dX12_asSort_29 : decode cX12_asSort 29 = .ok (.l2i, 1) := by decide +kernel
theorem dX12_asSort_30 : decode cX12_asSort 30 = .ok (.i2l, 1) := by decide +kernel
theorem dX12_asSort_31 : decode cX12_asSort 31 = .ok (.goto 23, 3) := by decide +kernel
theorem dX12_asSort_34 : decode cX12_asSort 34 = .ok (.iload_n 0, 1) := by decide +kernel
theorem dX12_asSort_35 : decode cX12_asSort 35 = .ok (.iconst 4, 1) := by decide +kernel
theorem dX12_asSort_36 : decode cX12_asSort 36 = .ok (.if_icmp .ne 17, 3) := by decide +kernel
theorem dX12_asSort_39 : decode cX12_asSort 39 = .ok (.lload_n 1, 1) := by decide +kernel
theorem dX12_asSort_40 : decode cX12_asSort 40 = .ok (.lconst 0, 1) := by decide +kernel
theorem dX12_asSort_41 : decode cX12_asSort 41 = .ok (.lcmp, 1) := by decide +kernel
theorem dX12_asSort_42 : decode cX12_asSort 42 = .ok (.ifCond .eq 7, 3) := by decide +kernel
theorem dX12_asSort_45 : decode cX12_asSort 45 = .ok (.lconst 1, 1) := by decide +kernel
theorem dX12_asSort_46 : decode cX12_asSort 46 = .ok (.goto 8, 3) := by decide +kernel
theorem dX12_asSort_49 : decode cX12_asSort 49 = .ok (.lconst 0, 1) := by decide +kernel
theorem dX12_asSort_50 : decode cX12_asSort 50 = .ok (.goto 4, 3) := by decide +kernel
theorem dX12_asSort_53 : decode cX12_asSort 53 = .ok (.lload_n 1, 1) := by decide +kernel
theorem dX12_asSort_54 : decode cX12_asSort 54 = .ok (.lreturn, 1) := by decide +kernel
theorem dX12_put_0 : decode cX12_put 0 = .ok (.aload_n 0, 1) := by decide +kernel
theorem dX12_put_1 : decode cX12_put 1 = .ok (.iload_n 1, 1) := by decide +kernel
theorem dX12_put_2 : decode cX12_put 2 = .ok (.iload_n 2, 1) := by decide +kernel
theorem dX12_put_3 : decode cX12_put 3 = .ok (.invokevirtual 344, 3) := by decide +kernel
theorem dX12_put_6 : decode cX12_put 6 = .ok (.istore 5, 2) := by decide +kernel
theorem dX12_put_8 : decode cX12_put 8 = .ok (.iload 5, 2) := by decide +kernel
theorem dX12_put_10 : decode cX12_put 10 = .ok (.ifCond .ne 27, 3) := by decide +kernel
theorem dX12_put_13 : decode cX12_put 13 = .ok (.aload_n 0, 1) := by decide +kernel
theorem dX12_put_14 : decode cX12_put 14 = .ok (.getfield 74, 3) := by decide +kernel
theorem dX12_put_17 : decode cX12_put 17 = .ok (.bipush 60, 2) := by decide +kernel
