theorem dX11_count_77 : decode cX11_count 77 = .ok (.getfield 44, 3) := by decide +kernel
theorem dX11_count_80 : decode cX11_count 80 = .ok (.invokevirtual 294, 3) := by decide +kernel
theorem dX11_count_83 : decode cX11_count 83 = .ok (.ireturn, 1) := by decide +kernel
theorem dX11_count_84 : decode cX11_count 84 = .ok (.aload_n 0, 1) := by decide +kernel
theorem dX11_count_85 : decode cX11_count 85 = .ok (.getfield 81, 3) := by decide +kernel
theorem dX11_count_88 : decode cX11_count 88 = .ok (.invokevirtual 267, 3) := by decide +kernel
theorem dX11_count_91 : decode cX11_count 91 = .ok (.ireturn, 1) := by decide +kernel
theorem dX11_count_92 : decode cX11_count 92 = .ok (.aload_n 0, 1) := by decide +kernel
theorem dX11_count_93 : decode cX11_count 93 = .ok (.getfield 81, 3) := by decide +kernel
theorem dX11_count_96 : decode cX11_count 96 = .ok (.invokevirtual 297, 3) := by decide +kernel
theorem dX11_count_99 : decode cX11_count 99 = .ok (.ireturn, 1) := by decide +kernel
theorem dX11_count_100 : decode cX11_count 100 = .ok (.iconst (-1), 1) := by decide +kernel
theorem dX11_count_101 : decode cX11_count 101 = .ok (.ireturn, 1) := by decide +kernel
theorem dX12_within_0 : decode cX12_within 0 = .ok (.lload_n 0, 1) := by decide +kernel
theorem dX12_within_1 : decode cX12_within 1 = .ok (.lload_n 2, 1) := by decide +kernel
theorem dX12_within_2 : decode cX12_within 2 = .ok (.lcmp, 1) := by decide +kernel
theorem dX12_within_3 : decode cX12_within 3 = .ok (.ifCond .lt 14, 3) := by decide +kernel
theorem dX12_within_6 : decode cX12_within 6 = .ok (.lload_n 0, 1) := by decide +kernel
theorem dX12_within_7 : decode cX12_within 7 = .ok (.lload 4, 2) := by decide +kernel
theorem dX12_within_9 : decode cX12_within 9 = .ok (.lcmp, 1) := by decide +kernel
theorem dX12_within_10 : decode cX12_within 10 = .ok (.ifCond .gt 7, 3) := by decide +kernel
theorem dX12_within_13 : decode cX12_within 13 = .ok (.iconst 1, 1) := by decide +kernel
theorem dX12_within_14 : decode cX12_within 14 = .ok (.goto 4, 3) := by decide +kernel
theorem dX12_within_17 : decode cX12_within 17 = .ok (.iconst 0, 1) := by decide +kernel
theorem dX12_within_18 : decode cX12_within 18 = .ok (.ireturn, 1) := by decide +kernel
theorem dX12_size_0 : decode cX12_size 0 = .ok (.iload_n 0, 1) := by decide +kernel
theorem dX12_size_1 : decode cX12_size 1 = .ok (.ifCond .ge 8, 3) := by decide +kernel
theorem dX12_size_4 : decode cX12_size 4 = .ok (.iload_n 0, 1) := by decide +kernel
theorem dX12_size_5 : decode cX12_size 5 = .ok (.ineg, 1) := by decide +kernel
theorem dX12_size_6 : decode cX12_size 6 = .ok (.goto 4, 3) := by decide +kernel
theorem dX12_size_9 : decode cX12_size 9 = .ok (.iload_n 0, 1) := by decide +kernel
theorem dX12_size_10 : decode cX12_size 10 = .ok (.ireturn, 1) := by decide +kernel
theorem dX12_init_0 : decode cX12_init 0 = .ok (.aload_n 0, 1) := by decide +kernel
theorem dX12_init_1 : decode cX12_init 1 = .ok (.invokespecial 3, 3) := by decide +kernel
theorem dX12_init_4 : decode cX12_init 4 = .ok (.aload_n 0, 1) := by decide +kernel
theorem dX12_init_5 : decode cX12_init 5 = .ok (.bipush 96, 2) := by decide +kernel
theorem dX12_init_7 : decode cX12_init 7 = .ok (.newarray .int, 2) := by decide +kernel
theorem dX12_init_9 : decode cX12_init 9 = .ok (.putfield 9, 3) := by decide +kernel
theorem dX12_init_12 : decode cX12_init 12 = .ok (.aload_n 0, 1) := by decide +kernel
theorem dX12_init_13 : decode cX12_init 13 = .ok (.bipush 40, 2) := by decide +kernel
theorem dX12_init_15 : decode cX12_init 15 = .ok (.newarray .int, 2) := by decide +kernel
theorem dX12_init_17 : decode cX12_init 17 = .ok (.putfield 13, 3) := by decide +kernel
theorem dX12_init_20 : decode cX12_init 20 = .ok (.aload_n 0, 1) := by decide +kernel
theorem dX12_init_21 : decode cX12_init 21 = .ok (.bipush 40, 2) := by decide +kernel
theorem dX12_init_23 : decode cX12_init 23 = .ok (.newarray .int, 2) := by decide +kernel
theorem dX12_init_25 : decode cX12_init 25 = .ok (.putfield 16, 3) := by decide +kernel
theorem dX12_init_28 : decode cX12_init 28 = .ok (.aload_n 0, 1) := by decide +kernel
theorem dX12_init_29 : decode cX12_init 29 = .ok (.bipush 40, 2) := by decide +kernel
theorem dX12_init_31 : decode cX12_init 31 = .ok (.newarray .int, 2) := by decide +kernel
theorem dX12_init_33 : decode cX12_init 33 = .ok (.putfield 19, 3) := by decide +kernel
theorem dX12_init_36 : decode cX12_init 36 = .ok (.aload_n 0, 1) := by decide +kernel
theorem dX12_init_37 : decode cX12_init 37 = .ok (.ldc 22, 2) := by decide +kernel
theorem dX12_init_39 : decode cX12_init 39 = .ok (.newarray .boolean, 2) := by decide +kernel
theorem dX12_init_41 : decode cX12_init 41 = .ok (.putfield 23, 3) := by decide +kernel
theorem dX12_init_44 : decode cX12_init 44 = .ok (.aload_n 0, 1) := by decide +kernel
theorem dX12_init_45 : decode cX12_init 45 = .ok (.bipush 40, 2) := by decide +kernel
theorem dX12_init_47 : decode cX12_init 47 = .ok (.newarray .int, 2) := by decide +kernel
theorem dX12_init_49 : decode cX12_init 49 = .ok (.putfield 27, 3) := by decide +kernel
theorem dX12_init_52 : decode cX12_init 52 = .ok (.aload_n 0, 1) := by decide +kernel
theorem dX12_init_53 : decode cX12_init 53 = .ok (.sipush 2001, 3) := by decide +kernel
theorem dX12_init_56 : decode cX12_init 56 = .ok (.newarray .boolean, 2) := by decide +kernel
theorem dX12_init_58 : decode cX12_init 58 = .ok (.putfield 30, 3) := by decide +kernel
theorem dX12_init_61 : decode cX12_init 61 = .ok (.aload_n 0, 1) := by decide +kernel
theorem dX12_init_62 : decode cX12_init 62 = .ok (.sipush 2001, 3) := by decide +kernel
theorem dX12_init_65 : decode cX12_init 65 = .ok (.newarray .int, 2) := by decide +kernel
theorem dX12_init_67 : decode cX12_init 67 = .ok (.putfield 33, 3) := by decide +kernel
theorem dX12_init_70 : decode cX12_init 70 = .ok (.aload_n 0, 1) := by decide +kernel
theorem dX12_init_71 : decode cX12_init 71 = .ok (.sipush 2406, 3) := by decide +kernel
theorem dX12_init_74 : decode cX12_init 74 = .ok (.newarray .long, 2) := by decide +kernel
theorem dX12_init_76 : decode cX12_init 76 = .ok (.putfield 36, 3) := by decide +kernel
theorem dX12_init_79 : decode cX12_init 79 = .ok (.aload_n 0, 1) := by decide +kernel
theorem dX12_init_80 : decode cX12_init 80 = .ok (.ldc 40, 2) := by decide +kernel
theorem dX12_init_82 : decode cX12_init 82 = .ok (.newarray .int, 2) := by decide +kernel
theorem dX12_init_84 : decode cX12_init 84 = .ok (.putfield 41, 3) := by decide +kernel
theorem dX12_init_87 : decode cX12_init 87 = .ok (.aload_n 0, 1) := by decide +kernel
theorem dX12_init_88 : decode cX12_init 88 = .ok (.bipush 120, 2) := by decide +kernel
theorem dX12_init_90 : decode cX12_init 90 = .ok (.newarray .int, 2) := by decide +kernel
theorem dX12_init_92 : decode cX12_init 92 = .ok (.putfield 44, 3) := by decide +kernel
theorem dX12_init_95 : decode cX12_init 95 = .ok (.aload_n 0, 1) := by decide +kernel
theorem dX12_init_96 : decode cX12_init 96 = .ok (.bipush 120, 2) := by decide +kernel
theorem dX12_init_98 : decode cX12_init 98 = .ok (.newarray .int, 2) := by decide +kernel
theorem dX12_init_100 : decode cX12_init 100 = .ok (.putfield 47, 3) := by decide +kernel
theorem dX12_init_103 : decode cX12_init 103 = .ok (.aload_n 0, 1) := by decide +kernel
theorem dX12_init_104 : decode cX12_init 104 = .ok (.iconst 5, 1) := by decide +kernel
theorem dX12_init_105 : decode cX12_init 105 = .ok (.newarray .int, 2) := by decide +kernel
theorem dX12_init_107 : decode cX12_init 107 = .ok (.putfield 50, 3) := by decide +kernel
theorem dX12_init_110 : decode cX12_init 110 = .ok (.aload_n 0, 1) := by decide +kernel
theorem dX12_init_111 : decode cX12_init 111 = .ok (.iconst 4, 1) := by decide +kernel
theorem dX12_init_112 : decode cX12_init 112 = .ok (.newarray .int, 2) := by decide +kernel
theorem dX12_init_114 : decode cX12_init 114 = .ok (.putfield 53, 3) := by decide +kernel
theorem dX12_init_117 : decode cX12_init 117 = .ok (.aload_n 0, 1) := by decide +kernel
theorem dX12_init_118 : decode cX12_init 118 = .ok (.iconst 4, 1) := by decide +kernel
theorem dX12_init_119 : decode cX12_init 119 = .ok (.newarray .int, 2) := by decide +kernel
theorem dX12_init_121 : decode cX12_init 121 = .ok (.putfield 56, 3) := by decide +kernel
theorem dX12_init_124 : decode cX12_init 124 = .ok (.aload_n 0, 1) := by decide +kernel
theorem dX12_init_125 : decode cX12_init 125 = .ok (.bipush 8, 2) := by decide +kernel
theorem dX12_init_127 : decode cX12_init 127 = .ok (.newarray .int, 2) := by decide +kernel
theorem dX12_init_129 : decode cX12_init 129 = .ok (.putfield 59, 3) := by decide +kernel
theorem dX12_init_132 : decode cX12_init 132 = .ok (.aload_n 0, 1) := by decide +kernel
theorem dX12_init_133 : decode cX12_init 133 = .ok (.bipush 50, 2) := by decide +kernel
theorem dX12_init_135 : decode cX12_init 135 = .ok (.newarray .int, 2) := by decide +kernel
theorem dX12_init_137 : decode cX12_init 137 = .ok (.putfield 62, 3) := by decide +kernel
theorem dX12_init_140 : decode cX12_init 140 = .ok (.aload_n 0, 1) := by decide +kernel
theorem dX12_init_141 : decode cX12_init 141 = .ok (.bipush 24, 2) := by decide +kernel
theorem dX12_init_143 : decode cX12_init 143 = .ok (.newarray .int, 2) := by decide +kernel
theorem dX12_init_145 : decode cX12_init 145 = .ok (.putfield 65, 3) := by decide +kernel
theorem dX12_init_148 : decode cX12_init 148 = .ok (.aload_n 0, 1) := by decide +kernel
theorem dX12_init_149 : decode cX12_init 149 = .ok (.bipush 6, 2) := by decide +kernel
theorem dX12_init_151 : decode cX12_init 151 = .ok (.newarray .int, 2) := by decide +kernel
theorem dX12_init_153 : decode cX12_init 153 = .ok (.putfield 68, 3) := by decide +kernel
theorem dX12_init_156 : decode cX12_init 156 = .ok (.aload_n 0, 1) := by decide +kernel
theorem dX12_init_157 : decode cX12_init 157 = .ok (.bipush 6, 2) := by decide +kernel
theorem dX12_init_159 : decode cX12_init 159 = .ok (.newarray .int, 2) := by decide +kernel
theorem dX12_init_161 : decode cX12_init 161 = .ok (.putfield 71, 3) := by decide +kernel
theorem dX12_init_164 : decode cX12_init 164 = .ok (.aload_n 0, 1) := by decide +kernel
theorem dX12_init_165 : decode cX12_init 165 = .ok (.sipush 360, 3) := by decide +kernel
theorem dX12_init_168 : decode cX12_init 168 = .ok (.newarray .long, 2) := by decide +kernel
theorem dX12_init_170 : decode cX12_init 170 = .ok (.putfield 74, 3) := by decide +kernel
theorem dX12_init_173 : decode cX12_init 173 = .ok (.aload_n 0, 1) := by decide +kernel
theorem dX12_init_174 : decode cX12_init 174 = .ok (.bipush 60, 2) := by decide +kernel
theorem dX12_init_176 : decode cX12_init 176 = .ok (.newarray .long, 2) := by decide +kernel
theorem dX12_init_178 : decode cX12_init 178 = .ok (.putfield 77, 3) := by decide +kernel
theorem dX12_init_181 : decode cX12_init 181 = .ok (.iconst 0, 1) := by decide +kernel
theorem dX12_init_182 : decode cX12_init 182 = .ok (.istore_n 1, 1) := by decide +kernel
theorem dX12_init_183 : decode cX12_init 183 = .ok (.iload_n 1, 1) := by decide +kernel
theorem dX12_init_184 : decode cX12_init 184 = .ok (.bipush 6, 2) := by decide +kernel
theorem dX12_init_186 : decode cX12_init 186 = .ok (.if_icmp .ge 16, 3) := by decide +kernel
theorem dX12_init_189 : decode cX12_init 189 = .ok (.aload_n 0, 1) := by decide +kernel
theorem dX12_init_190 : decode cX12_init 190 = .ok (.getfield 68, 3) := by decide +kernel
theorem dX12_init_193 : decode cX12_init 193 = .ok (.iload_n 1, 1) := by decide +kernel
theorem dX12_init_194 : decode cX12_init 194 = .ok (.iconst (-1), 1) := by decide +kernel
theorem dX12_init_195 : decode cX12_init 195 = .ok (.iastore, 1) := by decide +kernel
theorem dX12_init_196 : decode cX12_init 196 = .ok (.iinc 1 1, 3) := by decide +kernel
theorem dX12_init_199 : decode cX12_init 199 = .ok (.goto (-16), 3) := by decide +kernel
theorem dX12_init_202 : decode cX12_init 202 = .ok (.aload_n 0, 1) := by decide +kernel
theorem dX12_init_203 : decode cX12_init 203 = .ok (.iconst (-1), 1) := by decide +kernel
theorem dX12_init_204 : decode cX12_init 204 = .ok (.putfield 80, 3) := by decide +kernel
theorem dX12_init_207 : decode cX12_init 207 = .ok (.return_, 1) := by decide +kernel
theorem dX12_becomes_0 : decode cX12_becomes 0 = .ok (.aload_n 0, 1) := by decide +kernel
theorem dX12_becomes_1 : decode cX12_becomes 1 = .ok (.getfield 9, 3) := by decide +kernel
theorem dX12_becomes_4 : decode cX12_becomes 4 = .ok (.iload_n 1, 1) := by decide +kernel
theorem dX12_becomes_5 : decode cX12_becomes 5 = .ok (.iaload, 1) := by decide +kernel
theorem dX12_becomes_6 : decode cX12_becomes 6 = .ok (.istore_n 3, 1) := by decide +kernel
theorem dX12_becomes_7 : decode cX12_becomes 7 = .ok (.iload_n 3, 1) := by decide +kernel
theorem dX12_becomes_8 : decode cX12_becomes 8 = .ok (.iload_n 2, 1) := by decide +kernel
theorem dX12_becomes_9 : decode cX12_becomes 9 = .ok (.if_icmp .ne 5, 3) := by decide +kernel
theorem dX12_becomes_12 : decode cX12_becomes 12 = .ok (.iload_n 3, 1) := by decide +kernel
theorem dX12_becomes_13 : decode cX12_becomes 13 = .ok (.ireturn, 1) := by decide +kernel
theorem dX12_becomes_14 : decode cX12_becomes 14 = .ok (.aload_n 0, 1) := by decide +kernel
theorem dX12_becomes_15 : decode cX12_becomes 15 = .ok (.getfield 84, 3) := by decide +kernel
theorem dX12_becomes_18 : decode cX12_becomes 18 = .ok (.bipush 40, 2) := by decide +kernel
theorem dX12_becomes_20 : decode cX12_becomes 20 = .ok (.if_icmp .ne 77, 3) := by decide +kernel
theorem dX12_becomes_23 : decode cX12_becomes 23 = .ok (.iconst 1, 1) := by decide +kernel
theorem dX12_becomes_24 : decode cX12_becomes 24 = .ok (.istore 4, 2) := by decide +kernel
theorem dX12_becomes_26 : decode cX12_becomes 26 = .ok (.iload 4, 2) := by decide +kernel
theorem dX12_becomes_28 : decode cX12_becomes 28 = .ok (.bipush 40, 2) := by decide +kernel
theorem dX12_becomes_30 : decode cX12_becomes 30 = .ok (.if_icmp .ge 57, 3) := by decide +kernel
theorem dX12_becomes_33 : decode cX12_becomes 33 = .ok (.aload_n 0, 1) := by decide +kernel
theorem dX12_becomes_34 : decode cX12_becomes 34 = .ok (.getfield 13, 3) := by decide +kernel
theorem dX12_becomes_37 : decode cX12_becomes 37 = .ok (.iload 4, 2) := by decide +kernel
theorem dX12_becomes_39 : decode cX12_becomes 39 = .ok (.iconst 1, 1) := by decide +kernel
theorem dX12_becomes_40 : decode cX12_becomes 40 = .ok (.isub, 1) := by decide +kernel
theorem dX12_becomes_41 : decode cX12_becomes 41 = .ok (.aload_n 0, 1) := by decide +kernel
theorem dX12_becomes_42 : decode cX12_becomes 42 = .ok (.getfield 13, 3) := by decide +kernel
theorem dX12_becomes_45 : decode cX12_becomes 45 = .ok (.iload 4, 2) := by decide +kernel
theorem dX12_becomes_47 : decode cX12_becomes 47 = .ok (.iaload, 1) := by decide +kernel
theorem dX12_becomes_48 : decode cX12_becomes 48 = .ok (.iastore, 1) := by decide +kernel
theorem dX12_becomes_49 : decode cX12_becomes 49 = .ok (.aload_n 0, 1) := by decide +kernel
theorem dX12_becomes_50 : decode cX12_becomes 50 = .ok (.getfield 16, 3) := by decide +kernel
theorem dX12_becomes_53 : decode cX12_becomes 53 = .ok (.iload 4, 2) := by decide +kernel
theorem dX12_becomes_55 : decode cX12_becomes 55 = .ok (.iconst 1, 1) := by decide +kernel
theorem dX12_becomes_56 : decode cX12_becomes 56 = .ok (.isub, 1) := by decide +kernel
theorem dX12_becomes_57 : decode cX12_becomes 57 = .ok (.aload_n 0, 1) := by decide +kernel
theorem dX12_becomes_58 : decode cX12_becomes 58 = .ok (.getfield 16, 3) := by decide +kernel
theorem dX12_becomes_61 : decode cX12_becomes 61 = .ok (.iload 4, 2) := by decide +kernel
theorem dX12_becomes_63 : decode cX12_becomes 63 = .ok (.iaload, 1) := by decide +kernel
theorem dX12_becomes_64 : decode cX12_becomes 64 = .ok (.iastore, 1) := by decide +kernel
theorem dX12_becomes_65 : decode cX12_becomes 65 = .ok (.aload_n 0, 1) := by decide +kernel
theorem dX12_becomes_66 : decode cX12_becomes 66 = .ok (.getfield 19, 3) := by decide +kernel
theorem dX12_becomes_69 : decode cX12_becomes 69 = .ok (.iload 4, 2) := by decide +kernel
theorem dX12_becomes_71 : decode cX12_becomes 71 = .ok (.iconst 1, 1) := by decide +kernel
theorem dX12_becomes_72 : decode cX12_becomes 72 = .ok (.isub, 1) := by decide +kernel
theorem dX12_becomes_73 : decode cX12_becomes 73 = .ok (.aload_n 0, 1) := by decide +kernel
theorem dX12_becomes_74 : decode cX12_becomes 74 = .ok (.getfield 19, 3) := by decide +kernel
theorem dX12_becomes_77 : decode cX12_becomes 77 = .ok (.iload 4, 2) := by decide +kernel
theorem dX12_becomes_79 : decode cX12_becomes 79 = .ok (.iaload, 1) := by decide +kernel
theorem dX12_becomes_80 : decode cX12_becomes 80 = .ok (.iastore, 1) := by decide +kernel
theorem dX12_becomes_81 : decode cX12_becomes 81 = .ok (.iinc 4 1, 3) := by decide +kernel
theorem dX12_becomes_84 : decode cX12_becomes 84 = .ok (.goto (-58), 3) := by decide +kernel
theorem dX12_becomes_87 : decode cX12_becomes 87 = .ok (.aload_n 0, 1) := by decide +kernel
theorem dX12_becomes_88 : decode cX12_becomes 88 = .ok (.dup, 1) := by decide +kernel
theorem dX12_becomes_89 : decode cX12_becomes 89 = .ok (.getfield 84, 3) := by decide +kernel
theorem dX12_becomes_92 : decode cX12_becomes 92 = .ok (.iconst 1, 1) := by decide +kernel
theorem dX12_becomes_93 : decode cX12_becomes 93 = .ok (.isub, 1) := by decide +kernel
theorem dX12_becomes_94 : decode cX12_becomes 94 = .ok (.putfield 84, 3) := by decide +kernel
theorem dX12_becomes_97 : decode cX12_becomes 97 = .ok (.aload_n 0, 1) := by decide +kernel
theorem dX12_becomes_98 : decode cX12_becomes 98 = .ok (.getfield 13, 3) := by decide +kernel
theorem dX12_becomes_101 : decode cX12_becomes 101 = .ok (.aload_n 0, 1) := by decide +kernel
theorem dX12_becomes_102 : decode cX12_becomes 102 = .ok (.getfield 84, 3) := by decide +kernel
theorem dX12_becomes_105 : decode cX12_becomes 105 = .ok (.iload_n 1, 1) := by decide +kernel
theorem dX12_becomes_106 : decode cX12_becomes 106 = .ok (.iastore, 1) := by decide +kernel
theorem dX12_becomes_107 : decode cX12_becomes 107 = .ok (.aload_n 0, 1) := by decide +kernel
theorem dX12_becomes_108 : decode cX12_becomes 108 = .ok (.getfield 16, 3) := by decide +kernel
theorem dX12_becomes_111 : decode cX12_becomes 111 = .ok (.aload_n 0, 1) := by decide +kernel
theorem dX12_becomes_112 : decode cX12_becomes 112 = .ok (.getfield 84, 3) := by decide +kernel
theorem dX12_becomes_115 : decode cX12_becomes 115 = .ok (.iload_n 3, 1) := by decide +kernel
theorem dX12_becomes_116 : decode cX12_becomes 116 = .ok (.iastore, 1) := by decide +kernel
theorem dX12_becomes_117 : decode cX12_becomes 117 = .ok (.aload_n 0, 1) := by decide +kernel
theorem dX12_becomes_118 : decode cX12_becomes 118 = .ok (.getfield 19, 3) := by decide +kernel
theorem dX12_becomes_121 : decode cX12_becomes 121 = .ok (.aload_n 0, 1) := by decide +kernel
theorem dX12_becomes_122 : decode cX12_becomes 122 = .ok (.getfield 84, 3) := by decide +kernel
theorem dX12_becomes_125 : decode cX12_becomes 125 = .ok (.iload_n 2, 1) := by decide +kernel
theorem dX12_becomes_126 : decode cX12_becomes 126 = .ok (.iastore, 1) := by decide +kernel
theorem dX12_becomes_127 : decode cX12_becomes 127 = .ok (.aload_n 0, 1) := by decide +kernel
theorem dX12_becomes_128 : decode cX12_becomes 128 = .ok (.dup, 1) := by decide +kernel
theorem dX12_becomes_129 : decode cX12_becomes 129 = .ok (.getfield 84, 3) := by decide +kernel
theorem dX12_becomes_132 : decode cX12_becomes 132 = .ok (.iconst 1, 1) := by decide +kernel
theorem dX12_becomes_133 : decode cX12_becomes 133 = .ok (.iadd, 1) := by decide +kernel
theorem dX12_becomes_134 : decode cX12_becomes 134 = .ok (.putfield 84, 3) := by decide +kernel
theorem dX12_becomes_137 : decode cX12_becomes 137 = .ok (.aload_n 0, 1) := by decide +kernel
theorem dX12_becomes_138 : decode cX12_becomes 138 = .ok (.aload_n 0, 1) := by decide +kernel
theorem dX12_becomes_139 : decode cX12_becomes 139 = .ok (.getfield 84, 3) := by decide +kernel
theorem dX12_becomes_142 : decode cX12_becomes 142 = .ok (.putfield 87, 3) := by decide +kernel
theorem dX12_becomes_145 : decode cX12_becomes 145 = .ok (.aload_n 0, 1) := by decide +kernel
theorem dX12_becomes_146 : decode cX12_becomes 146 = .ok (.getfield 9, 3) := by decide +kernel
theorem dX12_becomes_149 : decode cX12_becomes 149 = .ok (.iload_n 1, 1) := by decide +kernel
theorem dX12_becomes_150 : decode cX12_becomes 150 = .ok (.iload_n 2, 1) := by decide +kernel
theorem dX12_becomes_151 : decode cX12_becomes 151 = .ok (.iastore, 1) := by decide +kernel
theorem dX12_becomes_152 : decode cX12_becomes 152 = .ok (.iload_n 3, 1) := by decide +kernel
theorem dX12_becomes_153 : decode cX12_becomes 153 = .ok (.ireturn, 1) := by decide +kernel
theorem dX12_undo_0 : decode cX12_undo 0 = .ok (.aload_n 0, 1) := by decide +kernel
theorem dX12_undo_1 : decode cX12_undo 1 = .ok (.getfield 84, 3) := by decide +kernel
theorem dX12_undo_4 : decode cX12_undo 4 = .ok (.ifCond .ne 6, 3) := by decide +kernel
theorem dX12_undo_7 : decode cX12_undo 7 = .ok (.bipush (-5), 2) := by decide +kernel
theorem dX12_undo_9 : decode cX12_undo 9 = .ok (.ireturn, 1) := by decide +kernel
theorem dX12_undo_10 : decode cX12_undo 10 = .ok (.aload_n 0, 1) := by decide +kernel
theorem dX12_undo_11 : decode cX12_undo 11 = .ok (.dup, 1) := by decide +kernel
theorem dX12_undo_12 : decode cX12_undo 12 = .ok (.getfield 84, 3) := by decide +kernel
theorem dX12_undo_15 : decode cX12_undo 15 = .ok (.iconst 1, 1) := by decide +kernel
theorem dX12_undo_16 : decode cX12_undo 16 = .ok (.isub, 1) := by decide +kernel
theorem dX12_undo_17 : decode cX12_undo 17 = .ok (.putfield 84, 3) := by decide +kernel
theorem dX12_undo_20 : decode cX12_undo 20 = .ok (.aload_n 0, 1) := by decide +kernel
theorem dX12_undo_21 : decode cX12_undo 21 = .ok (.getfield 9, 3) := by decide +kernel
theorem dX12_undo_24 : decode cX12_undo 24 = .ok (.aload_n 0, 1) := by decide +kernel
theorem dX12_undo_25 : decode cX12_undo 25 = .ok (.getfield 13, 3) := by decide +kernel
theorem dX12_undo_28 : decode cX12_undo 28 = .ok (.aload_n 0, 1) := by decide +kernel
theorem dX12_undo_29 : decode cX12_undo 29 = .ok (.getfield 84, 3) := by decide +kernel
theorem dX12_undo_32 : decode cX12_undo 32 = .ok (.iaload, 1) := by decide +kernel
theorem dX12_undo_33 : decode cX12_undo 33 = .ok (.aload_n 0, 1) := by decide +kernel
theorem dX12_undo_34 : decode cX12_undo 34 = .ok (.getfield 16, 3) := by decide +kernel
theorem dX12_undo_37 : decode cX12_undo 37 = .ok (.aload_n 0, 1) := by decide +kernel
theorem dX12_undo_38 : decode cX12_undo 38 = .ok (.getfield 84, 3) := by decide +kernel
theorem dX12_undo_41 : decode cX12_undo 41 = .ok (.iaload, 1) := by decide +kernel
theorem dX12_undo_42 : decode cX12_undo 42 = .ok (.iastore, 1) := by decide +kernel
theorem dX12_undo_43 : decode cX12_undo 43 = .ok (.aload_n 0, 1) := by decide +kernel
theorem dX12_undo_44 : decode cX12_undo 44 = .ok (.getfield 84, 3) := by decide +kernel
theorem dX12_undo_47 : decode cX12_undo 47 = .ok (.ireturn, 1) := by decide +kernel
theorem dX12_redo_0 : decode cX12_redo 0 = .ok (.aload_n 0, 1) := by decide +kernel
theorem dX12_redo_1 : decode cX12_redo 1 = .ok (.getfield 84, 3) := by decide +kernel
theorem dX12_redo_4 : decode cX12_redo 4 = .ok (.aload_n 0, 1) := by decide +kernel
theorem dX12_redo_5 : decode cX12_redo 5 = .ok (.getfield 87, 3) := by decide +kernel
theorem dX12_redo_8 : decode cX12_redo 8 = .ok (.if_icmp .ne 6, 3) := by decide +kernel
theorem dX12_redo_11 : decode cX12_redo 11 = .ok (.bipush (-5), 2) := by decide +kernel
theorem dX12_redo_13 : decode cX12_redo 13 = .ok (.ireturn, 1) := by decide +kernel
theorem dX12_redo_14 : decode cX12_redo 14 = .ok (.aload_n 0, 1) := by decide +kernel
theorem dX12_redo_15 : decode cX12_redo 15 = .ok (.getfield 9, 3) := by decide +kernel
theorem dX12_redo_18 : decode cX12_redo 18 = .ok (.aload_n 0, 1) := by decide +kernel
theorem dX12_redo_19 : decode cX12_redo 19 = .ok (.getfield 13, 3) := by decide +kernel
theorem dX12_redo_22 : decode cX12_redo 22 = .ok (.aload_n 0, 1) := by decide +kernel
theorem dX12_redo_23 : decode cX12_redo 23 = .ok (.getfield 84, 3) := by decide +kernel
theorem dX12_redo_26 : decode cX12_redo 26 = .ok (.iaload, 1) := by decide +kernel
theorem dX12_redo_27 : decode cX12_redo 27 = .ok (.aload_n 0, 1) := by decide +kernel
theorem dX12_redo_28 : decode cX12_redo 28 = .ok (.getfield 19, 3) := by decide +kernel
theorem dX12_redo_31 : decode cX12_redo 31 = .ok (.aload_n 0, 1) := by decide +kernel
theorem dX12_redo_32 : decode cX12_redo 32 = .ok (.getfield 84, 3) := by decide +kernel
theorem dX12_redo_35 : decode cX12_redo 35 = .ok (.iaload, 1) := by decide +kernel
theorem dX12_redo_36 : decode cX12_redo 36 = .ok (.iastore, 1) := by decide +kernel
theorem dX12_redo_37 : decode cX12_redo 37 = .ok (.aload_n 0, 1) := by decide +kernel
theorem dX12_redo_38 : decode cX12_redo 38 = .ok (.dup, 1) := by decide +kernel
theorem dX12_redo_39 : decode cX12_redo 39 = .ok (.getfield 84, 3) := by decide +kernel
theorem dX12_redo_42 : decode cX12_redo 42 = .ok (.iconst 1, 1) := by decide +kernel
theorem dX12_redo_43 : decode cX12_redo 43 = .ok (.iadd, 1) := by decide +kernel
theorem dX12_redo_44 : decode cX12_redo 44 = .ok (.putfield 84, 3) := by decide +kernel
theorem dX12_redo_47 : decode cX12_redo 47 = .ok (.aload_n 0, 1) := by decide +kernel
theorem dX12_redo_48 : decode cX12_redo 48 = .ok (.getfield 87, 3) := by decide +kernel
theorem dX12_redo_51 : decode cX12_redo 51 = .ok (.aload_n 0, 1) := by decide +kernel
theorem dX12_redo_52 : decode cX12_redo 52 = .ok (.getfield 84, 3) := by decide +kernel
theorem dX12_redo_55 : decode cX12_redo 55 = .ok (.isub, 1) := by decide +kernel
theorem dX12_redo_56 : decode cX12_redo 56 = .ok (.ireturn, 1) := by decide +kernel
theorem dX12_leastPart_0 : decode cX12_leastPart 0 = .ok (.lload_n 0, 1) := by decide +kernel
theorem dX12_leastPart_1 : decode cX12_leastPart 1 = .ok (.ldc2_w 90, 3) := by decide +kernel
theorem dX12_leastPart_4 : decode cX12_leastPart 4 = .ok (.lrem, 1) := by decide +kernel
theorem dX12_leastPart_5 : decode cX12_leastPart 5 = .ok (.lconst 0, 1) := by decide +kernel
theorem dX12_leastPart_6 : decode cX12_leastPart 6 = .ok (.lcmp, 1) := by decide +kernel
theorem dX12_leastPart_7 : decode cX12_leastPart 7 = .ok (.ifCond .ne 7, 3) := by decide +kernel
theorem dX12_leastPart_10 : decode cX12_leastPart 10 = .ok (.ldc2_w 90, 3) := by decide +kernel
theorem dX12_leastPart_13 : decode cX12_leastPart 13 = .ok (.lreturn, 1) := by decide +kernel
theorem dX12_leastPart_14 : decode cX12_leastPart 14 = .ok (.lload_n 0, 1) := by decide +kernel
theorem dX12_leastPart_15 : decode cX12_leastPart 15 = .ok (.ldc2_w 92, 3) := by decide +kernel
theorem dX12_leastPart_18 : decode cX12_leastPart 18 = .ok (.lrem, 1) := by decide +kernel
theorem dX12_leastPart_19 : decode cX12_leastPart 19 = .ok (.lconst 0, 1) := by decide +kernel
theorem dX12_leastPart_20 : decode cX12_leastPart 20 = .ok (.lcmp, 1) := by decide +kernel
theorem dX12_leastPart_21 : decode cX12_leastPart 21 = .ok (.ifCond .ne 7, 3) := by decide +kernel
theorem dX12_leastPart_24 : decode cX12_leastPart 24 = .ok (.ldc2_w 92, 3) := by decide +kernel
theorem dX12_leastPart_27 : decode cX12_leastPart 27 = .ok (.lreturn, 1) := by decide +kernel
theorem dX12_leastPart_28 : decode cX12_leastPart 28 = .ok (.ldc2_w 94, 3) := by decide +kernel
theorem dX12_leastPart_31 : decode cX12_leastPart 31 = .ok (.lstore_n 2, 1) := by decide +kernel
theorem dX12_leastPart_32 : decode cX12_leastPart 32 = .ok (.lload_n 2, 1) := by decide +kernel
theorem dX12_leastPart_33 : decode cX12_leastPart 33 = .ok (.lload_n 2, 1) := by decide +kernel
theorem dX12_leastPart_34 : decode cX12_leastPart 34 = .ok (.lmul, 1) := by decide +kernel
theorem dX12_leastPart_35 : decode cX12_leastPart 35 = .ok (.lload_n 0, 1) := by decide +kernel
theorem dX12_leastPart_36 : decode cX12_leastPart 36 = .ok (.lcmp, 1) := by decide +kernel
theorem dX12_leastPart_37 : decode cX12_leastPart 37 = .ok (.ifCond .gt 40, 3) := by decide +kernel
theorem dX12_leastPart_40 : decode cX12_leastPart 40 = .ok (.lload_n 0, 1) := by decide +kernel
theorem dX12_leastPart_41 : decode cX12_leastPart 41 = .ok (.lload_n 2, 1) := by decide +kernel
theorem dX12_leastPart_42 : decode cX12_leastPart 42 = .ok (.lrem, 1) := by decide +kernel
theorem dX12_leastPart_43 : decode cX12_leastPart 43 = .ok (.lconst 0, 1) := by decide +kernel
theorem dX12_leastPart_44 : decode cX12_leastPart 44 = .ok (.lcmp, 1) := by decide +kernel
theorem dX12_leastPart_45 : decode cX12_leastPart 45 = .ok (.ifCond .ne 5, 3) := by decide +kernel
theorem dX12_leastPart_48 : decode cX12_leastPart 48 = .ok (.lload_n 2, 1) := by decide +kernel
theorem dX12_leastPart_49 : decode cX12_leastPart 49 = .ok (.lreturn, 1) := by decide +kernel
theorem dX12_leastPart_50 : decode cX12_leastPart 50 = .ok (.lload_n 0, 1) := by decide +kernel
theorem dX12_leastPart_51 : decode cX12_leastPart 51 = .ok (.lload_n 2, 1) := by decide +kernel
theorem dX12_leastPart_52 : decode cX12_leastPart 52 = .ok (.ldc2_w 90, 3) := by decide +kernel
theorem dX12_leastPart_55 : decode cX12_leastPart 55 = .ok (.ladd, 1) := by decide +kernel
theorem dX12_leastPart_56 : decode cX12_leastPart 56 = .ok (.lrem, 1) := by decide +kernel
theorem dX12_leastPart_57 : decode cX12_leastPart 57 = .ok (.lconst 0, 1) := by decide +kernel
theorem dX12_leastPart_58 : decode cX12_leastPart 58 = .ok (.lcmp, 1) := by decide +kernel
theorem dX12_leastPart_59 : decode cX12_leastPart 59 = .ok (.ifCond .ne 9, 3) := by decide +kernel
theorem dX12_leastPart_62 : decode cX12_leastPart 62 = .ok (.lload_n 2, 1) := by decide +kernel
theorem dX12_leastPart_63 : decode cX12_leastPart 63 = .ok (.ldc2_w 90, 3) := by decide +kernel
theorem dX12_leastPart_66 : decode cX12_leastPart 66 = .ok (.ladd, 1) := by decide +kernel
theorem dX12_leastPart_67 : decode cX12_leastPart 67 = .ok (.lreturn, 1) := by decide +kernel
theorem dX12_leastPart_68 : decode cX12_leastPart 68 = .ok (.lload_n 2, 1) := by decide +kernel
theorem dX12_leastPart_69 : decode cX12_leastPart 69 = .ok (.ldc2_w 96, 3) := by decide +kernel
theorem dX12_leastPart_72 : decode cX12_leastPart 72 = .ok (.ladd, 1) := by decide +kernel
theorem dX12_leastPart_73 : decode cX12_leastPart 73 = .ok (.lstore_n 2, 1) := by decide +kernel
theorem dX12_leastPart_74 : decode cX12_leastPart 74 = .ok (.goto (-42), 3) := by decide +kernel
theorem dX12_leastPart_77 : decode cX12_leastPart 77 = .ok (.lload_n 0, 1) := by decide +kernel
theorem dX12_leastPart_78 : decode cX12_leastPart 78 = .ok (.lreturn, 1) := by decide +kernel
theorem dX12_strikes_0 : decode cX12_strikes 0 = .ok (.iconst 2, 1) := by decide +kernel
theorem dX12_strikes_1 : decode cX12_strikes 1 = .ok (.istore_n 1, 1) := by decide +kernel
theorem dX12_strikes_2 : decode cX12_strikes 2 = .ok (.iload_n 1, 1) := by decide +kernel
theorem dX12_strikes_3 : decode cX12_strikes 3 = .ok (.iload_n 1, 1) := by decide +kernel
theorem dX12_strikes_4 : decode cX12_strikes 4 = .ok (.imul, 1) := by decide +kernel
theorem dX12_strikes_5 : decode cX12_strikes 5 = .ok (.ldc 22, 2) := by decide +kernel
theorem dX12_strikes_7 : decode cX12_strikes 7 = .ok (.if_icmp .ge 42, 3) := by decide +kernel
theorem dX12_strikes_10 : decode cX12_strikes 10 = .ok (.iload_n 1, 1) := by decide +kernel
theorem dX12_strikes_11 : decode cX12_strikes 11 = .ok (.iload_n 1, 1) := by decide +kernel
theorem dX12_strikes_12 : decode cX12_strikes 12 = .ok (.imul, 1) := by decide +kernel
theorem dX12_strikes_13 : decode cX12_strikes 13 = .ok (.istore_n 2, 1) := by decide +kernel
theorem dX12_strikes_14 : decode cX12_strikes 14 = .ok (.iload_n 2, 1) := by decide +kernel
theorem dX12_strikes_15 : decode cX12_strikes 15 = .ok (.ldc 22, 2) := by decide +kernel
theorem dX12_strikes_17 : decode cX12_strikes 17 = .ok (.if_icmp .ge 26, 3) := by decide +kernel
theorem dX12_strikes_20 : decode cX12_strikes 20 = .ok (.aload_n 0, 1) := by decide +kernel
theorem dX12_strikes_21 : decode cX12_strikes 21 = .ok (.getfield 23, 3) := by decide +kernel
theorem dX12_strikes_24 : decode cX12_strikes 24 = .ok (.iload_n 1, 1) := by decide +kernel
theorem dX12_strikes_25 : decode cX12_strikes 25 = .ok (.baload, 1) := by decide +kernel
theorem dX12_strikes_26 : decode cX12_strikes 26 = .ok (.ifCond .ne 17, 3) := by decide +kernel
theorem dX12_strikes_29 : decode cX12_strikes 29 = .ok (.aload_n 0, 1) := by decide +kernel
theorem dX12_strikes_30 : decode cX12_strikes 30 = .ok (.getfield 23, 3) := by decide +kernel
theorem dX12_strikes_33 : decode cX12_strikes 33 = .ok (.iload_n 2, 1) := by decide +kernel
theorem dX12_strikes_34 : decode cX12_strikes 34 = .ok (.iconst 1, 1) := by decide +kernel
theorem dX12_strikes_35 : decode cX12_strikes 35 = .ok (.bastore, 1) := by decide +kernel
theorem dX12_strikes_36 : decode cX12_strikes 36 = .ok (.iload_n 2, 1) := by decide +kernel
theorem dX12_strikes_37 : decode cX12_strikes 37 = .ok (.iload_n 1, 1) := by decide +kernel
theorem dX12_strikes_38 : decode cX12_strikes 38 = .ok (.iadd, 1) := by decide +kernel
theorem dX12_strikes_39 : decode cX12_strikes 39 = .ok (.istore_n 2, 1) := by decide +kernel
theorem dX12_strikes_40 : decode cX12_strikes 40 = .ok (.goto (-26), 3) := by decide +kernel
theorem dX12_strikes_43 : decode cX12_strikes 43 = .ok (.iinc 1 1, 3) := by decide +kernel
theorem dX12_strikes_46 : decode cX12_strikes 46 = .ok (.goto (-44), 3) := by decide +kernel
theorem dX12_strikes_49 : decode cX12_strikes 49 = .ok (.aload_n 0, 1) := by decide +kernel
theorem dX12_strikes_50 : decode cX12_strikes 50 = .ok (.iconst 1, 1) := by decide +kernel
theorem dX12_strikes_51 : decode cX12_strikes 51 = .ok (.putfield 98, 3) := by decide +kernel
theorem dX12_strikes_54 : decode cX12_strikes 54 = .ok (.return_, 1) := by decide +kernel
theorem dX12_isWhole_0 : decode cX12_isWhole 0 = .ok (.lload_n 1, 1) := by decide +kernel
theorem dX12_isWhole_1 : decode cX12_isWhole 1 = .ok (.ldc2_w 102, 3) := by decide +kernel
theorem dX12_isWhole_4 : decode cX12_isWhole 4 = .ok (.lcmp, 1) := by decide +kernel
theorem dX12_isWhole_5 : decode cX12_isWhole 5 = .ok (.ifCond .lt 18, 3) := by decide +kernel
theorem dX12_isWhole_8 : decode cX12_isWhole 8 = .ok (.lload_n 1, 1) := by decide +kernel
theorem dX12_isWhole_9 : decode cX12_isWhole 9 = .ok (.invokestatic 104, 3) := by decide +kernel
theorem dX12_isWhole_12 : decode cX12_isWhole 12 = .ok (.lload_n 1, 1) := by decide +kernel
theorem dX12_isWhole_13 : decode cX12_isWhole 13 = .ok (.lcmp, 1) := by decide +kernel
theorem dX12_isWhole_14 : decode cX12_isWhole 14 = .ok (.ifCond .ne 7, 3) := by decide +kernel
theorem dX12_isWhole_17 : decode cX12_isWhole 17 = .ok (.iconst 1, 1) := by decide +kernel
theorem dX12_isWhole_18 : decode cX12_isWhole 18 = .ok (.goto 4, 3) := by decide +kernel
theorem dX12_isWhole_21 : decode cX12_isWhole 21 = .ok (.iconst 0, 1) := by decide +kernel
theorem dX12_isWhole_22 : decode cX12_isWhole 22 = .ok (.ireturn, 1) := by decide +kernel
theorem dX12_isWhole_23 : decode cX12_isWhole 23 = .ok (.aload_n 0, 1) := by decide +kernel
theorem dX12_isWhole_24 : decode cX12_isWhole 24 = .ok (.getfield 98, 3) := by decide +kernel
theorem dX12_isWhole_27 : decode cX12_isWhole 27 = .ok (.ifCond .ne 7, 3) := by decide +kernel
theorem dX12_isWhole_30 : decode cX12_isWhole 30 = .ok (.aload_n 0, 1) := by decide +kernel
theorem dX12_isWhole_31 : decode cX12_isWhole 31 = .ok (.invokevirtual 108, 3) := by decide +kernel
theorem dX12_isWhole_34 : decode cX12_isWhole 34 = .ok (.lload_n 1, 1) := by decide +kernel
theorem dX12_isWhole_35 : decode cX12_isWhole 35 = .ok (.ldc2_w 90, 3) := by decide +kernel
theorem dX12_isWhole_38 : decode cX12_isWhole 38 = .ok (.lcmp, 1) := by decide +kernel
theorem dX12_isWhole_39 : decode cX12_isWhole 39 = .ok (.ifCond .lt 17, 3) := by decide +kernel
theorem dX12_isWhole_42 : decode cX12_isWhole 42 = .ok (.aload_n 0, 1) := by decide +kernel
theorem dX12_isWhole_43 : decode cX12_isWhole 43 = .ok (.getfield 23, 3) := by decide +kernel
theorem dX12_isWhole_46 : decode cX12_isWhole 46 = .ok (.lload_n 1, 1) := by decide +kernel
theorem dX12_isWhole_47 : decode cX12_isWhole 47 = .ok (.l2i, 1) := by decide +kernel
theorem dX12_isWhole_48 : decode cX12_isWhole 48 = .ok (.baload, 1) := by decide +kernel
theorem dX12_isWhole_49 : decode cX12_isWhole 49 = .ok (.ifCond .ne 7, 3) := by decide +kernel
theorem dX12_isWhole_52 : decode cX12_isWhole 52 = .ok (.iconst 1, 1) := by decide +kernel
theorem dX12_isWhole_53 : decode cX12_isWhole 53 = .ok (.goto 4, 3) := by decide +kernel
theorem dX12_isWhole_56 : decode cX12_isWhole 56 = .ok (.iconst 0, 1) := by decide +kernel
theorem dX12_isWhole_57 : decode cX12_isWhole 57 = .ok (.ireturn, 1) := by decide +kernel
theorem dX12_isOfTwo_0 : decode cX12_isOfTwo 0 = .ok (.lload_n 1, 1) := by decide +kernel
theorem dX12_isOfTwo_1 : decode cX12_isOfTwo 1 = .ok (.ldc2_w 90, 3) := by decide +kernel
theorem dX12_isOfTwo_4 : decode cX12_isOfTwo 4 = .ok (.lrem, 1) := by decide +kernel
theorem dX12_isOfTwo_5 : decode cX12_isOfTwo 5 = .ok (.lconst 1, 1) := by decide +kernel
theorem dX12_isOfTwo_6 : decode cX12_isOfTwo 6 = .ok (.lcmp, 1) := by decide +kernel
theorem dX12_isOfTwo_7 : decode cX12_isOfTwo 7 = .ok (.ifCond .ne 13, 3) := by decide +kernel
theorem dX12_isOfTwo_10 : decode cX12_isOfTwo 10 = .ok (.aload_n 0, 1) := by decide +kernel
theorem dX12_isOfTwo_11 : decode cX12_isOfTwo 11 = .ok (.lload_n 1, 1) := by decide +kernel
theorem dX12_isOfTwo_12 : decode cX12_isOfTwo 12 = .ok (.ldc2_w 90, 3) := by decide +kernel
theorem dX12_isOfTwo_15 : decode cX12_isOfTwo 15 = .ok (.lsub, 1) := by decide +kernel
theorem dX12_isOfTwo_16 : decode cX12_isOfTwo 16 = .ok (.invokevirtual 111, 3) := by decide +kernel
theorem dX12_isOfTwo_19 : decode cX12_isOfTwo 19 = .ok (.ireturn, 1) := by decide +kernel
theorem dX12_isOfTwo_20 : decode cX12_isOfTwo 20 = .ok (.lload_n 1, 1) := by decide +kernel
theorem dX12_isOfTwo_21 : decode cX12_isOfTwo 21 = .ok (.ldc2_w 115, 3) := by decide +kernel
theorem dX12_isOfTwo_24 : decode cX12_isOfTwo 24 = .ok (.lcmp, 1) := by decide +kernel
theorem dX12_isOfTwo_25 : decode cX12_isOfTwo 25 = .ok (.ifCond .ne 5, 3) := by decide +kernel
theorem dX12_isOfTwo_28 : decode cX12_isOfTwo 28 = .ok (.iconst 1, 1) := by decide +kernel
theorem dX12_isOfTwo_29 : decode cX12_isOfTwo 29 = .ok (.ireturn, 1) := by decide +kernel
theorem dX12_isOfTwo_30 : decode cX12_isOfTwo 30 = .ok (.ldc2_w 92, 3) := by decide +kernel
theorem dX12_isOfTwo_33 : decode cX12_isOfTwo 33 = .ok (.lstore_n 3, 1) := by decide +kernel
theorem dX12_isOfTwo_34 : decode cX12_isOfTwo 34 = .ok (.ldc2_w 90, 3) := by decide +kernel
theorem dX12_isOfTwo_37 : decode cX12_isOfTwo 37 = .ok (.lload_n 3, 1) := by decide +kernel
theorem dX12_isOfTwo_38 : decode cX12_isOfTwo 38 = .ok (.lmul, 1) := by decide +kernel
theorem dX12_isOfTwo_39 : decode cX12_isOfTwo 39 = .ok (.lload_n 1, 1) := by decide +kernel
theorem dX12_isOfTwo_40 : decode cX12_isOfTwo 40 = .ok (.lcmp, 1) := by decide +kernel
theorem dX12_isOfTwo_41 : decode cX12_isOfTwo 41 = .ok (.ifCond .gt 32, 3) := by decide +kernel
theorem dX12_isOfTwo_44 : decode cX12_isOfTwo 44 = .ok (.aload_n 0, 1) := by decide +kernel
theorem dX12_isOfTwo_45 : decode cX12_isOfTwo 45 = .ok (.lload_n 3, 1) := by decide +kernel
theorem dX12_isOfTwo_46 : decode cX12_isOfTwo 46 = .ok (.invokevirtual 111, 3) := by decide +kernel
theorem dX12_isOfTwo_49 : decode cX12_isOfTwo 49 = .ok (.ifCond .eq 15, 3) := by decide +kernel
theorem dX12_isOfTwo_52 : decode cX12_isOfTwo 52 = .ok (.aload_n 0, 1) := by decide +kernel
theorem dX12_isOfTwo_53 : decode cX12_isOfTwo 53 = .ok (.lload_n 1, 1) := by decide +kernel
theorem dX12_isOfTwo_54 : decode cX12_isOfTwo 54 = .ok (.lload_n 3, 1) := by decide +kernel
theorem dX12_isOfTwo_55 : decode cX12_isOfTwo 55 = .ok (.lsub, 1) := by decide +kernel
theorem dX12_isOfTwo_56 : decode cX12_isOfTwo 56 = .ok (.invokevirtual 111, 3) := by decide +kernel
theorem dX12_isOfTwo_59 : decode cX12_isOfTwo 59 = .ok (.ifCond .eq 5, 3) := by decide +kernel
theorem dX12_isOfTwo_62 : decode cX12_isOfTwo 62 = .ok (.iconst 1, 1) := by decide +kernel
theorem dX12_isOfTwo_63 : decode cX12_isOfTwo 63 = .ok (.ireturn, 1) := by decide +kernel
theorem dX12_isOfTwo_64 : decode cX12_isOfTwo 64 = .ok (.lload_n 3, 1) := by decide +kernel
theorem dX12_isOfTwo_65 : decode cX12_isOfTwo 65 = .ok (.ldc2_w 90, 3) := by decide +kernel
theorem dX12_isOfTwo_68 : decode cX12_isOfTwo 68 = .ok (.ladd, 1) := by decide +kernel
theorem dX12_isOfTwo_69 : decode cX12_isOfTwo 69 = .ok (.lstore_n 3, 1) := by decide +kernel
theorem dX12_isOfTwo_70 : decode cX12_isOfTwo 70 = .ok (.goto (-36), 3) := by decide +kernel
theorem dX12_isOfTwo_73 : decode cX12_isOfTwo 73 = .ok (.iconst 0, 1) := by decide +kernel
theorem dX12_isOfTwo_74 : decode cX12_isOfTwo 74 = .ok (.ireturn, 1) := by decide +kernel
theorem dX12_isLawful_0 : decode cX12_isLawful 0 = .ok (.lload_n 1, 1) := by decide +kernel
theorem dX12_isLawful_1 : decode cX12_isLawful 1 = .ok (.ldc2_w 90, 3) := by decide +kernel
theorem dX12_isLawful_4 : decode cX12_isLawful 4 = .ok (.lcmp, 1) := by decide +kernel
theorem dX12_isLawful_5 : decode cX12_isLawful 5 = .ok (.ifCond .ge 5, 3) := by decide +kernel
theorem dX12_isLawful_8 : decode cX12_isLawful 8 = .ok (.iconst 0, 1) := by decide +kernel
theorem dX12_isLawful_9 : decode cX12_isLawful 9 = .ok (.ireturn, 1) := by decide +kernel
theorem dX12_isLawful_10 : decode cX12_isLawful 10 = .ok (.aload_n 0, 1) := by decide +kernel
theorem dX12_isLawful_11 : decode cX12_isLawful 11 = .ok (.getfield 117, 3) := by decide +kernel
theorem dX12_isLawful_14 : decode cX12_isLawful 14 = .ok (.ifCond .ne 9, 3) := by decide +kernel
theorem dX12_isLawful_17 : decode cX12_isLawful 17 = .ok (.aload_n 0, 1) := by decide +kernel
theorem dX12_isLawful_18 : decode cX12_isLawful 18 = .ok (.lload_n 1, 1) := by decide +kernel
theorem dX12_isLawful_19 : decode cX12_isLawful 19 = .ok (.invokevirtual 111, 3) := by decide +kernel
theorem dX12_isLawful_22 : decode cX12_isLawful 22 = .ok (.ireturn, 1) := by decide +kernel
theorem dX12_isLawful_23 : decode cX12_isLawful 23 = .ok (.aload_n 0, 1) := by decide +kernel
theorem dX12_isLawful_24 : decode cX12_isLawful 24 = .ok (.getfield 117, 3) := by decide +kernel
theorem dX12_isLawful_27 : decode cX12_isLawful 27 = .ok (.iconst 1, 1) := by decide +kernel
theorem dX12_isLawful_28 : decode cX12_isLawful 28 = .ok (.if_icmp .ne 30, 3) := by decide +kernel
theorem dX12_isLawful_31 : decode cX12_isLawful 31 = .ok (.lload_n 1, 1) := by decide +kernel
theorem dX12_isLawful_32 : decode cX12_isLawful 32 = .ok (.invokestatic 104, 3) := by decide +kernel
theorem dX12_isLawful_35 : decode cX12_isLawful 35 = .ok (.lstore_n 3, 1) := by decide +kernel
theorem dX12_isLawful_36 : decode cX12_isLawful 36 = .ok (.lload_n 3, 1) := by decide +kernel
theorem dX12_isLawful_37 : decode cX12_isLawful 37 = .ok (.lload_n 1, 1) := by decide +kernel
theorem dX12_isLawful_38 : decode cX12_isLawful 38 = .ok (.lcmp, 1) := by decide +kernel
theorem dX12_isLawful_39 : decode cX12_isLawful 39 = .ok (.ifCond .ge 17, 3) := by decide +kernel
theorem dX12_isLawful_42 : decode cX12_isLawful 42 = .ok (.aload_n 0, 1) := by decide +kernel
theorem dX12_isLawful_43 : decode cX12_isLawful 43 = .ok (.lload_n 1, 1) := by decide +kernel
theorem dX12_isLawful_44 : decode cX12_isLawful 44 = .ok (.lload_n 3, 1) := by decide +kernel
theorem dX12_isLawful_45 : decode cX12_isLawful 45 = .ok (.ldiv, 1) := by decide +kernel
theorem dX12_isLawful_46 : decode cX12_isLawful 46 = .ok (.invokevirtual 111, 3) := by decide +kernel
theorem dX12_isLawful_49 : decode cX12_isLawful 49 = .ok (.ifCond .eq 7, 3) := by decide +kernel
theorem dX12_isLawful_52 : decode cX12_isLawful 52 = .ok (.iconst 1, 1) := by decide +kernel
theorem dX12_isLawful_53 : decode cX12_isLawful 53 = .ok (.goto 4, 3) := by decide +kernel
theorem dX12_isLawful_56 : decode cX12_isLawful 56 = .ok (.iconst 0, 1) := by decide +kernel
theorem dX12_isLawful_57 : decode cX12_isLawful 57 = .ok (.ireturn, 1) := by decide +kernel
theorem dX12_isLawful_58 : decode cX12_isLawful 58 = .ok (.aload_n 0, 1) := by decide +kernel
theorem dX12_isLawful_59 : decode cX12_isLawful 59 = .ok (.getfield 117, 3) := by decide +kernel
theorem dX12_isLawful_62 : decode cX12_isLawful 62 = .ok (.iconst 2, 1) := by decide +kernel
theorem dX12_isLawful_63 : decode cX12_isLawful 63 = .ok (.if_icmp .ne 11, 3) := by decide +kernel
theorem dX12_isLawful_66 : decode cX12_isLawful 66 = .ok (.aload_n 0, 1) := by decide +kernel
theorem dX12_isLawful_67 : decode cX12_isLawful 67 = .ok (.lload_n 1, 1) := by decide +kernel
theorem dX12_isLawful_68 : decode cX12_isLawful 68 = .ok (.invokevirtual 120, 3) := by decide +kernel
theorem dX12_isLawful_71 : decode cX12_isLawful 71 = .ok (.goto 40, 3) := by decide +kernel
theorem dX12_isLawful_74 : decode cX12_isLawful 74 = .ok (.aload_n 0, 1) := by decide +kernel
theorem dX12_isLawful_75 : decode cX12_isLawful 75 = .ok (.lload_n 1, 1) := by decide +kernel
theorem dX12_isLawful_76 : decode cX12_isLawful 76 = .ok (.invokevirtual 111, 3) := by decide +kernel
theorem dX12_isLawful_79 : decode cX12_isLawful 79 = .ok (.ifCond .eq 31, 3) := by decide +kernel
theorem dX12_isLawful_82 : decode cX12_isLawful 82 = .ok (.aload_n 0, 1) := by decide +kernel
theorem dX12_isLawful_83 : decode cX12_isLawful 83 = .ok (.lload_n 1, 1) := by decide +kernel
theorem dX12_isLawful_84 : decode cX12_isLawful 84 = .ok (.ldc2_w 90, 3) := by decide +kernel
theorem dX12_isLawful_87 : decode cX12_isLawful 87 = .ok (.ladd, 1) := by decide +kernel
theorem dX12_isLawful_88 : decode cX12_isLawful 88 = .ok (.invokevirtual 111, 3) := by decide +kernel
theorem dX12_isLawful_91 : decode cX12_isLawful 91 = .ok (.ifCond .ne 15, 3) := by decide +kernel
theorem dX12_isLawful_94 : decode cX12_isLawful 94 = .ok (.aload_n 0, 1) := by decide +kernel
theorem dX12_isLawful_95 : decode cX12_isLawful 95 = .ok (.lload_n 1, 1) := by decide +kernel
theorem dX12_isLawful_96 : decode cX12_isLawful 96 = .ok (.ldc2_w 90, 3) := by decide +kernel
theorem dX12_isLawful_99 : decode cX12_isLawful 99 = .ok (.lsub, 1) := by decide +kernel
theorem dX12_isLawful_100 : decode cX12_isLawful 100 = .ok (.invokevirtual 111, 3) := by decide +kernel
theorem dX12_isLawful_103 : decode cX12_isLawful 103 = .ok (.ifCond .eq 7, 3) := by decide +kernel
theorem dX12_isLawful_106 : decode cX12_isLawful 106 = .ok (.iconst 1, 1) := by decide +kernel
theorem dX12_isLawful_107 : decode cX12_isLawful 107 = .ok (.goto 4, 3) := by decide +kernel
theorem dX12_isLawful_110 : decode cX12_isLawful 110 = .ok (.iconst 0, 1) := by decide +kernel
theorem dX12_isLawful_111 : decode cX12_isLawful 111 = .ok (.ireturn, 1) := by decide +kernel
theorem dX12_force_0 : decode cX12_force 0 = .ok (.iload_n 1, 1) := by decide +kernel
theorem dX12_force_1 : decode cX12_force 1 = .ok (.i2l, 1) := by decide +kernel
theorem dX12_force_2 : decode cX12_force 2 = .ok (.lconst 0, 1) := by decide +kernel
theorem dX12_force_3 : decode cX12_force 3 = .ok (.ldc2_w 92, 3) := by decide +kernel
theorem dX12_force_6 : decode cX12_force 6 = .ok (.invokestatic 123, 3) := by decide +kernel
theorem dX12_force_9 : decode cX12_force 9 = .ok (.ifCond .ne 5, 3) := by decide +kernel
theorem dX12_force_12 : decode cX12_force 12 = .ok (.iconst (-1), 1) := by decide +kernel
theorem dX12_force_13 : decode cX12_force 13 = .ok (.ireturn, 1) := by decide +kernel
theorem dX12_force_14 : decode cX12_force 14 = .ok (.aload_n 0, 1) := by decide +kernel
theorem dX12_force_15 : decode cX12_force 15 = .ok (.getfield 117, 3) := by decide +kernel
theorem dX12_force_18 : decode cX12_force 18 = .ok (.istore_n 2, 1) := by decide +kernel
theorem dX12_force_19 : decode cX12_force 19 = .ok (.aload_n 0, 1) := by decide +kernel
theorem dX12_force_20 : decode cX12_force 20 = .ok (.iload_n 1, 1) := by decide +kernel
theorem dX12_force_21 : decode cX12_force 21 = .ok (.putfield 117, 3) := by decide +kernel
theorem dX12_force_24 : decode cX12_force 24 = .ok (.iload_n 2, 1) := by decide +kernel
theorem dX12_force_25 : decode cX12_force 25 = .ok (.ireturn, 1) := by decide +kernel
theorem dX12_isHalf_0 : decode cX12_isHalf 0 = .ok (.iload_n 0, 1) := by decide +kernel
theorem dX12_isHalf_1 : decode cX12_isHalf 1 = .ok (.i2l, 1) := by decide +kernel
theorem dX12_isHalf_2 : decode cX12_isHalf 2 = .ok (.lconst 0, 1) := by decide +kernel
theorem dX12_isHalf_3 : decode cX12_isHalf 3 = .ok (.ldc2_w 127, 3) := by decide +kernel
theorem dX12_isHalf_6 : decode cX12_isHalf 6 = .ok (.invokestatic 123, 3) := by decide +kernel
theorem dX12_isHalf_9 : decode cX12_isHalf 9 = .ok (.ireturn, 1) := by decide +kernel
theorem dX12_lawful_0 : decode cX12_lawful 0 = .ok (.iload_n 1, 1) := by decide +kernel
theorem dX12_lawful_1 : decode cX12_lawful 1 = .ok (.invokestatic 129, 3) := by decide +kernel
theorem dX12_lawful_4 : decode cX12_lawful 4 = .ok (.ifCond .eq 34, 3) := by decide +kernel
theorem dX12_lawful_7 : decode cX12_lawful 7 = .ok (.iload_n 2, 1) := by decide +kernel
theorem dX12_lawful_8 : decode cX12_lawful 8 = .ok (.invokestatic 129, 3) := by decide +kernel
theorem dX12_lawful_11 : decode cX12_lawful 11 = .ok (.ifCond .eq 27, 3) := by decide +kernel
theorem dX12_lawful_14 : decode cX12_lawful 14 = .ok (.aload_n 0, 1) := by decide +kernel
theorem dX12_lawful_15 : decode cX12_lawful 15 = .ok (.iload_n 1, 1) := by decide +kernel
theorem dX12_lawful_16 : decode cX12_lawful 16 = .ok (.i2l, 1) := by decide +kernel
theorem dX12_lawful_17 : decode cX12_lawful 17 = .ok (.ldc2_w 133, 3) := by decide +kernel
theorem dX12_lawful_20 : decode cX12_lawful 20 = .ok (.lmul, 1) := by decide +kernel
theorem dX12_lawful_21 : decode cX12_lawful 21 = .ok (.iload_n 2, 1) := by decide +kernel
theorem dX12_lawful_22 : decode cX12_lawful 22 = .ok (.i2l, 1) := by decide +kernel
theorem dX12_lawful_23 : decode cX12_lawful 23 = .ok (.ladd, 1) := by decide +kernel
theorem dX12_lawful_24 : decode cX12_lawful 24 = .ok (.invokevirtual 135, 3) := by decide +kernel
theorem dX12_lawful_27 : decode cX12_lawful 27 = .ok (.ifCond .eq 7, 3) := by decide +kernel
theorem dX12_lawful_30 : decode cX12_lawful 30 = .ok (.iconst 1, 1) := by decide +kernel
theorem dX12_lawful_31 : decode cX12_lawful 31 = .ok (.goto 8, 3) := by decide +kernel
theorem dX12_lawful_34 : decode cX12_lawful 34 = .ok (.iconst 0, 1) := by decide +kernel
theorem dX12_lawful_35 : decode cX12_lawful 35 = .ok (.goto 4, 3) := by decide +kernel
theorem dX12_lawful_38 : decode cX12_lawful 38 = .ok (.iconst (-1), 1) := by decide +kernel
theorem dX12_lawful_39 : decode cX12_lawful 39 = .ok (.ireturn, 1) := by decide +kernel
theorem dX12_part_0 : decode cX12_part 0 = .ok (.iload_n 1, 1) := by decide +kernel
theorem dX12_part_1 : decode cX12_part 1 = .ok (.invokestatic 129, 3) := by decide +kernel
theorem dX12_part_4 : decode cX12_part 4 = .ok (.ifCond .eq 19, 3) := by decide +kernel
theorem dX12_part_7 : decode cX12_part 7 = .ok (.iload_n 2, 1) := by decide +kernel
theorem dX12_part_8 : decode cX12_part 8 = .ok (.invokestatic 129, 3) := by decide +kernel
theorem dX12_part_11 : decode cX12_part 11 = .ok (.ifCond .eq 12, 3) := by decide +kernel
theorem dX12_part_14 : decode cX12_part 14 = .ok (.iload_n 1, 1) := by decide +kernel
theorem dX12_part_15 : decode cX12_part 15 = .ok (.ifCond .ne 12, 3) := by decide +kernel
theorem dX12_part_18 : decode cX12_part 18 = .ok (.iload_n 2, 1) := by decide +kernel
theorem dX12_part_19 : decode cX12_part 19 = .ok (.iconst 2, 1) := by decide +kernel
theorem dX12_part_20 : decode cX12_part 20 = .ok (.if_icmp .ge 7, 3) := by decide +kernel
theorem dX12_part_23 : decode cX12_part 23 = .ok (.ldc2_w 140, 3) := by decide +kernel
theorem dX12_part_26 : decode cX12_part 26 = .ok (.lreturn, 1) := by decide +kernel
theorem dX12_part_27 : decode cX12_part 27 = .ok (.iload_n 1, 1) := by decide +kernel
theorem dX12_part_28 : decode cX12_part 28 = .ok (.i2l, 1) := by decide +kernel
theorem dX12_part_29 : decode cX12_part 29 = .ok (.ldc2_w 133, 3) := by decide +kernel
theorem dX12_part_32 : decode cX12_part 32 = .ok (.lmul, 1) := by decide +kernel
theorem dX12_part_33 : decode cX12_part 33 = .ok (.iload_n 2, 1) := by decide +kernel
theorem dX12_part_34 : decode cX12_part 34 = .ok (.i2l, 1) := by decide +kernel
theorem dX12_part_35 : decode cX12_part 35 = .ok (.ladd, 1) := by decide +kernel
theorem dX12_part_36 : decode cX12_part 36 = .ok (.invokestatic 104, 3) := by decide +kernel
theorem dX12_part_39 : decode cX12_part 39 = .ok (.lreturn, 1) := by decide +kernel
theorem dX12_findParts_0 : decode cX12_findParts 0 = .ok (.aload_n 0, 1) := by decide +kernel
theorem dX12_findParts_1 : decode cX12_findParts 1 = .ok (.iconst 0, 1) := by decide +kernel
theorem dX12_findParts_2 : decode cX12_findParts 2 = .ok (.putfield 142, 3) := by decide +kernel
theorem dX12_findParts_5 : decode cX12_findParts 5 = .ok (.iload_n 1, 1) := by decide +kernel
theorem dX12_findParts_6 : decode cX12_findParts 6 = .ok (.istore_n 2, 1) := by decide +kernel
theorem dX12_findParts_7 : decode cX12_findParts 7 = .ok (.iload_n 2, 1) := by decide +kernel
theorem dX12_findParts_8 : decode cX12_findParts 8 = .ok (.iconst 1, 1) := by decide +kernel
theorem dX12_findParts_9 : decode cX12_findParts 9 = .ok (.if_icmp .le 43, 3) := by decide +kernel
theorem dX12_findParts_12 : decode cX12_findParts 12 = .ok (.aload_n 0, 1) := by decide +kernel
theorem dX12_findParts_13 : decode cX12_findParts 13 = .ok (.getfield 27, 3) := by decide +kernel
theorem dX12_findParts_16 : decode cX12_findParts 16 = .ok (.aload_n 0, 1) := by decide +kernel
theorem dX12_findParts_17 : decode cX12_findParts 17 = .ok (.getfield 142, 3) := by decide +kernel
theorem dX12_findParts_20 : decode cX12_findParts 20 = .ok (.iload_n 2, 1) := by decide +kernel
theorem dX12_findParts_21 : decode cX12_findParts 21 = .ok (.i2l, 1) := by decide +kernel
theorem dX12_findParts_22 : decode cX12_findParts 22 = .ok (.invokestatic 104, 3) := by decide +kernel
theorem dX12_findParts_25 : decode cX12_findParts 25 = .ok (.l2i, 1) := by decide +kernel
theorem dX12_findParts_26 : decode cX12_findParts 26 = .ok (.iastore, 1) := by decide +kernel
theorem dX12_findParts_27 : decode cX12_findParts 27 = .ok (.iload_n 2, 1) := by decide +kernel
theorem dX12_findParts_28 : decode cX12_findParts 28 = .ok (.aload_n 0, 1) := by decide +kernel
theorem dX12_findParts_29 : decode cX12_findParts 29 = .ok (.getfield 27, 3) := by decide +kernel
theorem dX12_findParts_32 : decode cX12_findParts 32 = .ok (.aload_n 0, 1) := by decide +kernel
theorem dX12_findParts_33 : decode cX12_findParts 33 = .ok (.getfield 142, 3) := by decide +kernel
theorem dX12_findParts_36 : decode cX12_findParts 36 = .ok (.iaload, 1) := by decide +kernel
theorem dX12_findParts_37 : decode cX12_findParts 37 = .ok (.idiv, 1) := by decide +kernel
theorem dX12_findParts_38 : decode cX12_findParts 38 = .ok (.istore_n 2, 1) := by decide +kernel
theorem dX12_findParts_39 : decode cX12_findParts 39 = .ok (.aload_n 0, 1) := by decide +kernel
theorem dX12_findParts_40 : decode cX12_findParts 40 = .ok (.dup, 1) := by decide +kernel
theorem dX12_findParts_41 : decode cX12_findParts 41 = .ok (.getfield 142, 3) := by decide +kernel
theorem dX12_findParts_44 : decode cX12_findParts 44 = .ok (.iconst 1, 1) := by decide +kernel
theorem dX12_findParts_45 : decode cX12_findParts 45 = .ok (.iadd, 1) := by decide +kernel
theorem dX12_findParts_46 : decode cX12_findParts 46 = .ok (.putfield 142, 3) := by decide +kernel
theorem dX12_findParts_49 : decode cX12_findParts 49 = .ok (.goto (-42), 3) := by decide +kernel
theorem dX12_findParts_52 : decode cX12_findParts 52 = .ok (.return_, 1) := by decide +kernel
theorem dX12_parts_0 : decode cX12_parts 0 = .ok (.iload_n 1, 1) := by decide +kernel
theorem dX12_parts_1 : decode cX12_parts 1 = .ok (.i2l, 1) := by decide +kernel
theorem dX12_parts_2 : decode cX12_parts 2 = .ok (.ldc2_w 90, 3) := by decide +kernel
theorem dX12_parts_5 : decode cX12_parts 5 = .ok (.ldc2_w 145, 3) := by decide +kernel
theorem dX12_parts_8 : decode cX12_parts 8 = .ok (.invokestatic 123, 3) := by decide +kernel
theorem dX12_parts_11 : decode cX12_parts 11 = .ok (.ifCond .eq 8, 3) := by decide +kernel
theorem dX12_parts_14 : decode cX12_parts 14 = .ok (.iload_n 2, 1) := by decide +kernel
theorem dX12_parts_15 : decode cX12_parts 15 = .ok (.iconst (-1), 1) := by decide +kernel
theorem dX12_parts_16 : decode cX12_parts 16 = .ok (.if_icmp .ge 5, 3) := by decide +kernel
theorem dX12_parts_19 : decode cX12_parts 19 = .ok (.iconst (-1), 1) := by decide +kernel
theorem dX12_parts_20 : decode cX12_parts 20 = .ok (.ireturn, 1) := by decide +kernel
theorem dX12_parts_21 : decode cX12_parts 21 = .ok (.aload_n 0, 1) := by decide +kernel
theorem dX12_parts_22 : decode cX12_parts 22 = .ok (.iload_n 1, 1) := by decide +kernel
theorem dX12_parts_23 : decode cX12_parts 23 = .ok (.invokevirtual 147, 3) := by decide +kernel
theorem dX12_parts_26 : decode cX12_parts 26 = .ok (.iload_n 2, 1) := by decide +kernel
theorem dX12_parts_27 : decode cX12_parts 27 = .ok (.iconst (-1), 1) := by decide +kernel
theorem dX12_parts_28 : decode cX12_parts 28 = .ok (.if_icmp .ne 10, 3) := by decide +kernel
theorem dX12_parts_31 : decode cX12_parts 31 = .ok (.aload_n 0, 1) := by decide +kernel
theorem dX12_parts_32 : decode cX12_parts 32 = .ok (.getfield 142, 3) := by decide +kernel
theorem dX12_parts_35 : decode cX12_parts 35 = .ok (.goto 21, 3) := by decide +kernel
theorem dX12_parts_38 : decode cX12_parts 38 = .ok (.iload_n 2, 1) := by decide +kernel
theorem dX12_parts_39 : decode cX12_parts 39 = .ok (.aload_n 0, 1) := by decide +kernel
theorem dX12_parts_40 : decode cX12_parts 40 = .ok (.getfield 142, 3) := by decide +kernel
theorem dX12_parts_43 : decode cX12_parts 43 = .ok (.if_icmp .ge 12, 3) := by decide +kernel
theorem dX12_parts_46 : decode cX12_parts 46 = .ok (.aload_n 0, 1) := by decide +kernel
theorem dX12_parts_47 : decode cX12_parts 47 = .ok (.getfield 27, 3) := by decide +kernel
theorem dX12_parts_50 : decode cX12_parts 50 = .ok (.iload_n 2, 1) := by decide +kernel
theorem dX12_parts_51 : decode cX12_parts 51 = .ok (.iaload, 1) := by decide +kernel
theorem dX12_parts_52 : decode cX12_parts 52 = .ok (.goto 4, 3) := by decide +kernel
theorem dX12_parts_55 : decode cX12_parts 55 = .ok (.iconst (-1), 1) := by decide +kernel
theorem dX12_parts_56 : decode cX12_parts 56 = .ok (.ireturn, 1) := by decide +kernel
theorem dX12_power_0 : decode cX12_power 0 = .ok (.lconst 1, 1) := by decide +kernel
theorem dX12_power_1 : decode cX12_power 1 = .ok (.lstore 5, 2) := by decide +kernel
theorem dX12_power_3 : decode cX12_power 3 = .ok (.lload_n 0, 1) := by decide +kernel
theorem dX12_power_4 : decode cX12_power 4 = .ok (.lload_n 3, 1) := by decide +kernel
theorem dX12_power_5 : decode cX12_power 5 = .ok (.lrem, 1) := by decide +kernel
theorem dX12_power_6 : decode cX12_power 6 = .ok (.lstore 7, 2) := by decide +kernel
theorem dX12_power_8 : decode cX12_power 8 = .ok (.iload_n 2, 1) := by decide +kernel
theorem dX12_power_9 : decode cX12_power 9 = .ok (.istore 9, 2) := by decide +kernel
theorem dX12_power_11 : decode cX12_power 11 = .ok (.iload 9, 2) := by decide +kernel
theorem dX12_power_13 : decode cX12_power 13 = .ok (.ifCond .le 38, 3) := by decide +kernel
theorem dX12_power_16 : decode cX12_power 16 = .ok (.iload 9, 2) := by decide +kernel
theorem dX12_power_18 : decode cX12_power 18 = .ok (.iconst 2, 1) := by decide +kernel
theorem dX12_power_19 : decode cX12_power 19 = .ok (.irem, 1) := by decide +kernel
theorem dX12_power_20 : decode cX12_power 20 = .ok (.iconst 1, 1) := by decide +kernel
theorem dX12_power_21 : decode cX12_power 21 = .ok (.if_icmp .ne 12, 3) := by decide +kernel
theorem dX12_power_24 : decode cX12_power 24 = .ok (.lload 5, 2) := by decide +kernel
theorem dX12_power_26 : decode cX12_power 26 = .ok (.lload 7, 2) := by decide +kernel
theorem dX12_power_28 : decode cX12_power 28 = .ok (.lmul, 1) := by decide +kernel
theorem dX12_power_29 : decode cX12_power 29 = .ok (.lload_n 3, 1) := by decide +kernel
theorem dX12_power_30 : decode cX12_power 30 = .ok (.lrem, 1) := by decide +kernel
theorem dX12_power_31 : decode cX12_power 31 = .ok (.lstore 5, 2) := by decide +kernel
theorem dX12_power_33 : decode cX12_power 33 = .ok (.lload 7, 2) := by decide +kernel
theorem dX12_power_35 : decode cX12_power 35 = .ok (.lload 7, 2) := by decide +kernel
theorem dX12_power_37 : decode cX12_power 37 = .ok (.lmul, 1) := by decide +kernel
theorem dX12_power_38 : decode cX12_power 38 = .ok (.lload_n 3, 1) := by decide +kernel
theorem dX12_power_39 : decode cX12_power 39 = .ok (.lrem, 1) := by decide +kernel
theorem dX12_power_40 : decode cX12_power 40 = .ok (.lstore 7, 2) := by decide +kernel
theorem dX12_power_42 : decode cX12_power 42 = .ok (.iload 9, 2) := by decide +kernel
theorem dX12_power_44 : decode cX12_power 44 = .ok (.iconst 2, 1) := by decide +kernel
theorem dX12_power_45 : decode cX12_power 45 = .ok (.idiv, 1) := by decide +kernel
theorem dX12_power_46 : decode cX12_power 46 = .ok (.istore 9, 2) := by decide +kernel
theorem dX12_power_48 : decode cX12_power 48 = .ok (.goto (-37), 3) := by decide +kernel
theorem dX12_power_51 : decode cX12_power 51 = .ok (.lload 5, 2) := by decide +kernel
theorem dX12_power_53 : decode cX12_power 53 = .ok (.lreturn, 1) := by decide +kernel
theorem dX12_isProof_0 : decode cX12_isProof 0 = .ok (.iload_n 2, 1) := by decide +kernel
theorem dX12_isProof_1 : decode cX12_isProof 1 = .ok (.i2l, 1) := by decide +kernel
theorem dX12_isProof_2 : decode cX12_isProof 2 = .ok (.iload_n 1, 1) := by decide +kernel
theorem dX12_isProof_3 : decode cX12_isProof 3 = .ok (.iconst 1, 1) := by decide +kernel
theorem dX12_isProof_4 : decode cX12_isProof 4 = .ok (.isub, 1) := by decide +kernel
theorem dX12_isProof_5 : decode cX12_isProof 5 = .ok (.iload_n 1, 1) := by decide +kernel
theorem dX12_isProof_6 : decode cX12_isProof 6 = .ok (.i2l, 1) := by decide +kernel
theorem dX12_isProof_7 : decode cX12_isProof 7 = .ok (.invokestatic 151, 3) := by decide +kernel
theorem dX12_isProof_10 : decode cX12_isProof 10 = .ok (.lconst 1, 1) := by decide +kernel
theorem dX12_isProof_11 : decode cX12_isProof 11 = .ok (.lcmp, 1) := by decide +kernel
theorem dX12_isProof_12 : decode cX12_isProof 12 = .ok (.ifCond .eq 5, 3) := by decide +kernel
theorem dX12_isProof_15 : decode cX12_isProof 15 = .ok (.iconst 0, 1) := by decide +kernel
theorem dX12_isProof_16 : decode cX12_isProof 16 = .ok (.ireturn, 1) := by decide +kernel
theorem dX12_isProof_17 : decode cX12_isProof 17 = .ok (.iconst 0, 1) := by decide +kernel
theorem dX12_isProof_18 : decode cX12_isProof 18 = .ok (.istore_n 3, 1) := by decide +kernel
theorem dX12_isProof_19 : decode cX12_isProof 19 = .ok (.iload_n 3, 1) := by decide +kernel
theorem dX12_isProof_20 : decode cX12_isProof 20 = .ok (.aload_n 0, 1) := by decide +kernel
theorem dX12_isProof_21 : decode cX12_isProof 21 = .ok (.getfield 142, 3) := by decide +kernel
theorem dX12_isProof_24 : decode cX12_isProof 24 = .ok (.if_icmp .ge 33, 3) := by decide +kernel
theorem dX12_isProof_27 : decode cX12_isProof 27 = .ok (.iload_n 2, 1) := by decide +kernel
theorem dX12_isProof_28 : decode cX12_isProof 28 = .ok (.i2l, 1) := by decide +kernel
theorem dX12_isProof_29 : decode cX12_isProof 29 = .ok (.iload_n 1, 1) := by decide +kernel
