theorem dX8_misfit_13 : decode cX8_misfit 13 = .ok (.if_icmp .lt 8, 3) := by decide +kernel
theorem dX8_misfit_16 : decode cX8_misfit 16 = .ok (.bipush (-9), 2) := by decide +kernel
theorem dX8_misfit_18 : decode cX8_misfit 18 = .ok (.goto 4, 3) := by decide +kernel
theorem dX8_misfit_21 : decode cX8_misfit 21 = .ok (.iload_n 1, 1) := by decide +kernel
theorem dX8_misfit_22 : decode cX8_misfit 22 = .ok (.ireturn, 1) := by decide +kernel
theorem dX8_inRow_0 : decode cX8_inRow 0 = .ok (.aload_n 0, 1) := by decide +kernel
theorem dX8_inRow_1 : decode cX8_inRow 1 = .ok (.iconst 0, 1) := by decide +kernel
theorem dX8_inRow_2 : decode cX8_inRow 2 = .ok (.putfield 95, 3) := by decide +kernel
theorem dX8_inRow_5 : decode cX8_inRow 5 = .ok (.aload_n 0, 1) := by decide +kernel
theorem dX8_inRow_6 : decode cX8_inRow 6 = .ok (.invokevirtual 198, 3) := by decide +kernel
theorem dX8_inRow_9 : decode cX8_inRow 9 = .ok (.istore_n 2, 1) := by decide +kernel
theorem dX8_inRow_10 : decode cX8_inRow 10 = .ok (.iload_n 2, 1) := by decide +kernel
theorem dX8_inRow_11 : decode cX8_inRow 11 = .ok (.ldc 188, 2) := by decide +kernel
theorem dX8_inRow_13 : decode cX8_inRow 13 = .ok (.if_icmp .ge 19, 3) := by decide +kernel
theorem dX8_inRow_16 : decode cX8_inRow 16 = .ok (.iload_n 1, 1) := by decide +kernel
theorem dX8_inRow_17 : decode cX8_inRow 17 = .ok (.i2l, 1) := by decide +kernel
theorem dX8_inRow_18 : decode cX8_inRow 18 = .ok (.lconst 0, 1) := by decide +kernel
theorem dX8_inRow_19 : decode cX8_inRow 19 = .ok (.aload_n 0, 1) := by decide +kernel
theorem dX8_inRow_20 : decode cX8_inRow 20 = .ok (.getfield 182, 3) := by decide +kernel
theorem dX8_inRow_23 : decode cX8_inRow 23 = .ok (.iconst 1, 1) := by decide +kernel
theorem dX8_inRow_24 : decode cX8_inRow 24 = .ok (.isub, 1) := by decide +kernel
theorem dX8_inRow_25 : decode cX8_inRow 25 = .ok (.i2l, 1) := by decide +kernel
theorem dX8_inRow_26 : decode cX8_inRow 26 = .ok (.invokestatic 102, 3) := by decide +kernel
theorem dX8_inRow_29 : decode cX8_inRow 29 = .ok (.ifCond .ne 6, 3) := by decide +kernel
theorem dX8_inRow_32 : decode cX8_inRow 32 = .ok (.bipush (-9), 2) := by decide +kernel
theorem dX8_inRow_34 : decode cX8_inRow 34 = .ok (.ireturn, 1) := by decide +kernel
theorem dX8_inRow_35 : decode cX8_inRow 35 = .ok (.bipush (-9), 2) := by decide +kernel
theorem dX8_inRow_37 : decode cX8_inRow 37 = .ok (.istore_n 3, 1) := by decide +kernel
theorem dX8_inRow_38 : decode cX8_inRow 38 = .ok (.aload_n 0, 1) := by decide +kernel
theorem dX8_inRow_39 : decode cX8_inRow 39 = .ok (.getfield 182, 3) := by decide +kernel
theorem dX8_inRow_42 : decode cX8_inRow 42 = .ok (.iconst 1, 1) := by decide +kernel
theorem dX8_inRow_43 : decode cX8_inRow 43 = .ok (.isub, 1) := by decide +kernel
theorem dX8_inRow_44 : decode cX8_inRow 44 = .ok (.istore 4, 2) := by decide +kernel
theorem dX8_inRow_46 : decode cX8_inRow 46 = .ok (.iload 4, 2) := by decide +kernel
theorem dX8_inRow_48 : decode cX8_inRow 48 = .ok (.ifCond .lt 37, 3) := by decide +kernel
theorem dX8_inRow_51 : decode cX8_inRow 51 = .ok (.aload_n 0, 1) := by decide +kernel
theorem dX8_inRow_52 : decode cX8_inRow 52 = .ok (.getfield 89, 3) := by decide +kernel
theorem dX8_inRow_55 : decode cX8_inRow 55 = .ok (.bipush 7, 2) := by decide +kernel
theorem dX8_inRow_57 : decode cX8_inRow 57 = .ok (.aload_n 0, 1) := by decide +kernel
theorem dX8_inRow_58 : decode cX8_inRow 58 = .ok (.iload 4, 2) := by decide +kernel
theorem dX8_inRow_60 : decode cX8_inRow 60 = .ok (.invokevirtual 195, 3) := by decide +kernel
theorem dX8_inRow_63 : decode cX8_inRow 63 = .ok (.imul, 1) := by decide +kernel
theorem dX8_inRow_64 : decode cX8_inRow 64 = .ok (.iload 4, 2) := by decide +kernel
theorem dX8_inRow_66 : decode cX8_inRow 66 = .ok (.iadd, 1) := by decide +kernel
theorem dX8_inRow_67 : decode cX8_inRow 67 = .ok (.iaload, 1) := by decide +kernel
theorem dX8_inRow_68 : decode cX8_inRow 68 = .ok (.iload_n 2, 1) := by decide +kernel
theorem dX8_inRow_69 : decode cX8_inRow 69 = .ok (.if_icmp .ne 8, 3) := by decide +kernel
theorem dX8_inRow_72 : decode cX8_inRow 72 = .ok (.iload 4, 2) := by decide +kernel
theorem dX8_inRow_74 : decode cX8_inRow 74 = .ok (.goto 4, 3) := by decide +kernel
theorem dX8_inRow_77 : decode cX8_inRow 77 = .ok (.iload_n 3, 1) := by decide +kernel
theorem dX8_inRow_78 : decode cX8_inRow 78 = .ok (.istore_n 3, 1) := by decide +kernel
theorem dX8_inRow_79 : decode cX8_inRow 79 = .ok (.iinc 4 (-1), 3) := by decide +kernel
theorem dX8_inRow_82 : decode cX8_inRow 82 = .ok (.goto (-36), 3) := by decide +kernel
theorem dX8_inRow_85 : decode cX8_inRow 85 = .ok (.aload_n 0, 1) := by decide +kernel
theorem dX8_inRow_86 : decode cX8_inRow 86 = .ok (.iload_n 3, 1) := by decide +kernel
theorem dX8_inRow_87 : decode cX8_inRow 87 = .ok (.invokevirtual 195, 3) := by decide +kernel
theorem dX8_inRow_90 : decode cX8_inRow 90 = .ok (.istore 4, 2) := by decide +kernel
theorem dX8_inRow_92 : decode cX8_inRow 92 = .ok (.iconst 0, 1) := by decide +kernel
theorem dX8_inRow_93 : decode cX8_inRow 93 = .ok (.istore 5, 2) := by decide +kernel
theorem dX8_inRow_95 : decode cX8_inRow 95 = .ok (.iload 5, 2) := by decide +kernel
theorem dX8_inRow_97 : decode cX8_inRow 97 = .ok (.iload_n 1, 1) := by decide +kernel
theorem dX8_inRow_98 : decode cX8_inRow 98 = .ok (.if_icmp .ge 129, 3) := by decide +kernel
theorem dX8_inRow_101 : decode cX8_inRow 101 = .ok (.bipush (-9), 2) := by decide +kernel
theorem dX8_inRow_103 : decode cX8_inRow 103 = .ok (.istore 6, 2) := by decide +kernel
theorem dX8_inRow_105 : decode cX8_inRow 105 = .ok (.aload_n 0, 1) := by decide +kernel
theorem dX8_inRow_106 : decode cX8_inRow 106 = .ok (.getfield 182, 3) := by decide +kernel
theorem dX8_inRow_109 : decode cX8_inRow 109 = .ok (.iconst 1, 1) := by decide +kernel
theorem dX8_inRow_110 : decode cX8_inRow 110 = .ok (.isub, 1) := by decide +kernel
theorem dX8_inRow_111 : decode cX8_inRow 111 = .ok (.istore 7, 2) := by decide +kernel
theorem dX8_inRow_113 : decode cX8_inRow 113 = .ok (.iload 7, 2) := by decide +kernel
theorem dX8_inRow_115 : decode cX8_inRow 115 = .ok (.ifCond .lt 94, 3) := by decide +kernel
theorem dX8_inRow_118 : decode cX8_inRow 118 = .ok (.iload 4, 2) := by decide +kernel
theorem dX8_inRow_120 : decode cX8_inRow 120 = .ok (.iload 7, 2) := by decide +kernel
theorem dX8_inRow_122 : decode cX8_inRow 122 = .ok (.ishr, 1) := by decide +kernel
theorem dX8_inRow_123 : decode cX8_inRow 123 = .ok (.iconst 1, 1) := by decide +kernel
theorem dX8_inRow_124 : decode cX8_inRow 124 = .ok (.iand, 1) := by decide +kernel
theorem dX8_inRow_125 : decode cX8_inRow 125 = .ok (.iconst 1, 1) := by decide +kernel
theorem dX8_inRow_126 : decode cX8_inRow 126 = .ok (.if_icmp .ne 60, 3) := by decide +kernel
theorem dX8_inRow_129 : decode cX8_inRow 129 = .ok (.aload_n 0, 1) := by decide +kernel
theorem dX8_inRow_130 : decode cX8_inRow 130 = .ok (.iload_n 3, 1) := by decide +kernel
theorem dX8_inRow_131 : decode cX8_inRow 131 = .ok (.iload 7, 2) := by decide +kernel
theorem dX8_inRow_133 : decode cX8_inRow 133 = .ok (.invokevirtual 189, 3) := by decide +kernel
theorem dX8_inRow_136 : decode cX8_inRow 136 = .ok (.ldc 188, 2) := by decide +kernel
theorem dX8_inRow_138 : decode cX8_inRow 138 = .ok (.if_icmp .ge 48, 3) := by decide +kernel
theorem dX8_inRow_141 : decode cX8_inRow 141 = .ok (.aload_n 0, 1) := by decide +kernel
theorem dX8_inRow_142 : decode cX8_inRow 142 = .ok (.iload_n 3, 1) := by decide +kernel
theorem dX8_inRow_143 : decode cX8_inRow 143 = .ok (.iload 7, 2) := by decide +kernel
theorem dX8_inRow_145 : decode cX8_inRow 145 = .ok (.invokevirtual 189, 3) := by decide +kernel
theorem dX8_inRow_148 : decode cX8_inRow 148 = .ok (.aload_n 0, 1) := by decide +kernel
theorem dX8_inRow_149 : decode cX8_inRow 149 = .ok (.getfield 89, 3) := by decide +kernel
theorem dX8_inRow_152 : decode cX8_inRow 152 = .ok (.bipush 7, 2) := by decide +kernel
theorem dX8_inRow_154 : decode cX8_inRow 154 = .ok (.iload 4, 2) := by decide +kernel
theorem dX8_inRow_156 : decode cX8_inRow 156 = .ok (.iconst 1, 1) := by decide +kernel
theorem dX8_inRow_157 : decode cX8_inRow 157 = .ok (.iload 7, 2) := by decide +kernel
theorem dX8_inRow_159 : decode cX8_inRow 159 = .ok (.ishl, 1) := by decide +kernel
theorem dX8_inRow_160 : decode cX8_inRow 160 = .ok (.ixor, 1) := by decide +kernel
theorem dX8_inRow_161 : decode cX8_inRow 161 = .ok (.imul, 1) := by decide +kernel
theorem dX8_inRow_162 : decode cX8_inRow 162 = .ok (.iload 7, 2) := by decide +kernel
theorem dX8_inRow_164 : decode cX8_inRow 164 = .ok (.iadd, 1) := by decide +kernel
theorem dX8_inRow_165 : decode cX8_inRow 165 = .ok (.iaload, 1) := by decide +kernel
theorem dX8_inRow_166 : decode cX8_inRow 166 = .ok (.iadd, 1) := by decide +kernel
theorem dX8_inRow_167 : decode cX8_inRow 167 = .ok (.aload_n 0, 1) := by decide +kernel
theorem dX8_inRow_168 : decode cX8_inRow 168 = .ok (.getfield 89, 3) := by decide +kernel
theorem dX8_inRow_171 : decode cX8_inRow 171 = .ok (.bipush 7, 2) := by decide +kernel
theorem dX8_inRow_173 : decode cX8_inRow 173 = .ok (.iload 4, 2) := by decide +kernel
theorem dX8_inRow_175 : decode cX8_inRow 175 = .ok (.imul, 1) := by decide +kernel
theorem dX8_inRow_176 : decode cX8_inRow 176 = .ok (.iload_n 3, 1) := by decide +kernel
theorem dX8_inRow_177 : decode cX8_inRow 177 = .ok (.iadd, 1) := by decide +kernel
theorem dX8_inRow_178 : decode cX8_inRow 178 = .ok (.iaload, 1) := by decide +kernel
theorem dX8_inRow_179 : decode cX8_inRow 179 = .ok (.if_icmp .ne 7, 3) := by decide +kernel
theorem dX8_inRow_182 : decode cX8_inRow 182 = .ok (.iconst 1, 1) := by decide +kernel
theorem dX8_inRow_183 : decode cX8_inRow 183 = .ok (.goto 4, 3) := by decide +kernel
theorem dX8_inRow_186 : decode cX8_inRow 186 = .ok (.iconst 0, 1) := by decide +kernel
theorem dX8_inRow_187 : decode cX8_inRow 187 = .ok (.istore 8, 2) := by decide +kernel
theorem dX8_inRow_189 : decode cX8_inRow 189 = .ok (.iload 8, 2) := by decide +kernel
theorem dX8_inRow_191 : decode cX8_inRow 191 = .ok (.ifCond .eq 8, 3) := by decide +kernel
theorem dX8_inRow_194 : decode cX8_inRow 194 = .ok (.iload 7, 2) := by decide +kernel
theorem dX8_inRow_196 : decode cX8_inRow 196 = .ok (.goto 5, 3) := by decide +kernel
theorem dX8_inRow_199 : decode cX8_inRow 199 = .ok (.iload 6, 2) := by decide +kernel
theorem dX8_inRow_201 : decode cX8_inRow 201 = .ok (.istore 6, 2) := by decide +kernel
theorem dX8_inRow_203 : decode cX8_inRow 203 = .ok (.iinc 7 (-1), 3) := by decide +kernel
theorem dX8_inRow_206 : decode cX8_inRow 206 = .ok (.goto (-93), 3) := by decide +kernel
theorem dX8_inRow_209 : decode cX8_inRow 209 = .ok (.iload 4, 2) := by decide +kernel
theorem dX8_inRow_211 : decode cX8_inRow 211 = .ok (.iconst 1, 1) := by decide +kernel
theorem dX8_inRow_212 : decode cX8_inRow 212 = .ok (.iload 6, 2) := by decide +kernel
theorem dX8_inRow_214 : decode cX8_inRow 214 = .ok (.ishl, 1) := by decide +kernel
theorem dX8_inRow_215 : decode cX8_inRow 215 = .ok (.ixor, 1) := by decide +kernel
theorem dX8_inRow_216 : decode cX8_inRow 216 = .ok (.istore 4, 2) := by decide +kernel
theorem dX8_inRow_218 : decode cX8_inRow 218 = .ok (.iload 6, 2) := by decide +kernel
theorem dX8_inRow_220 : decode cX8_inRow 220 = .ok (.istore_n 3, 1) := by decide +kernel
theorem dX8_inRow_221 : decode cX8_inRow 221 = .ok (.iinc 5 1, 3) := by decide +kernel
theorem dX8_inRow_224 : decode cX8_inRow 224 = .ok (.goto (-129), 3) := by decide +kernel
theorem dX8_inRow_227 : decode cX8_inRow 227 = .ok (.iload_n 3, 1) := by decide +kernel
theorem dX8_inRow_228 : decode cX8_inRow 228 = .ok (.ireturn, 1) := by decide +kernel
theorem dX8_sung_0 : decode cX8_sung 0 = .ok (.aload_n 0, 1) := by decide +kernel
theorem dX8_sung_1 : decode cX8_sung 1 = .ok (.iconst 0, 1) := by decide +kernel
theorem dX8_sung_2 : decode cX8_sung 2 = .ok (.putfield 95, 3) := by decide +kernel
theorem dX8_sung_5 : decode cX8_sung 5 = .ok (.aload_n 0, 1) := by decide +kernel
theorem dX8_sung_6 : decode cX8_sung 6 = .ok (.iload_n 1, 1) := by decide +kernel
theorem dX8_sung_7 : decode cX8_sung 7 = .ok (.invokevirtual 110, 3) := by decide +kernel
theorem dX8_sung_10 : decode cX8_sung 10 = .ok (.ifCond .ne 15, 3) := by decide +kernel
theorem dX8_sung_13 : decode cX8_sung 13 = .ok (.iload_n 3, 1) := by decide +kernel
theorem dX8_sung_14 : decode cX8_sung 14 = .ok (.i2l, 1) := by decide +kernel
theorem dX8_sung_15 : decode cX8_sung 15 = .ok (.lconst 0, 1) := by decide +kernel
theorem dX8_sung_16 : decode cX8_sung 16 = .ok (.ldc2_w 145, 3) := by decide +kernel
theorem dX8_sung_19 : decode cX8_sung 19 = .ok (.invokestatic 102, 3) := by decide +kernel
theorem dX8_sung_22 : decode cX8_sung 22 = .ok (.ifCond .ne 5, 3) := by decide +kernel
theorem dX8_sung_25 : decode cX8_sung 25 = .ok (.iconst (-1), 1) := by decide +kernel
theorem dX8_sung_26 : decode cX8_sung 26 = .ok (.ireturn, 1) := by decide +kernel
theorem dX8_sung_27 : decode cX8_sung 27 = .ok (.iload_n 2, 1) := by decide +kernel
theorem dX8_sung_28 : decode cX8_sung 28 = .ok (.i2l, 1) := by decide +kernel
theorem dX8_sung_29 : decode cX8_sung 29 = .ok (.lconst 0, 1) := by decide +kernel
theorem dX8_sung_30 : decode cX8_sung 30 = .ok (.ldc2_w 201, 3) := by decide +kernel
theorem dX8_sung_33 : decode cX8_sung 33 = .ok (.invokestatic 102, 3) := by decide +kernel
theorem dX8_sung_36 : decode cX8_sung 36 = .ok (.ifCond .ne 6, 3) := by decide +kernel
theorem dX8_sung_39 : decode cX8_sung 39 = .ok (.bipush (-2), 2) := by decide +kernel
theorem dX8_sung_41 : decode cX8_sung 41 = .ok (.ireturn, 1) := by decide +kernel
theorem dX8_sung_42 : decode cX8_sung 42 = .ok (.aload_n 0, 1) := by decide +kernel
theorem dX8_sung_43 : decode cX8_sung 43 = .ok (.getfield 37, 3) := by decide +kernel
theorem dX8_sung_46 : decode cX8_sung 46 = .ok (.iload_n 1, 1) := by decide +kernel
theorem dX8_sung_47 : decode cX8_sung 47 = .ok (.iaload, 1) := by decide +kernel
theorem dX8_sung_48 : decode cX8_sung 48 = .ok (.istore 4, 2) := by decide +kernel
theorem dX8_sung_50 : decode cX8_sung 50 = .ok (.aload_n 0, 1) := by decide +kernel
theorem dX8_sung_51 : decode cX8_sung 51 = .ok (.getfield 37, 3) := by decide +kernel
theorem dX8_sung_54 : decode cX8_sung 54 = .ok (.iload_n 1, 1) := by decide +kernel
theorem dX8_sung_55 : decode cX8_sung 55 = .ok (.iload_n 2, 1) := by decide +kernel
theorem dX8_sung_56 : decode cX8_sung 56 = .ok (.iastore, 1) := by decide +kernel
theorem dX8_sung_57 : decode cX8_sung 57 = .ok (.aload_n 0, 1) := by decide +kernel
theorem dX8_sung_58 : decode cX8_sung 58 = .ok (.getfield 40, 3) := by decide +kernel
theorem dX8_sung_61 : decode cX8_sung 61 = .ok (.iload_n 1, 1) := by decide +kernel
theorem dX8_sung_62 : decode cX8_sung 62 = .ok (.iload_n 3, 1) := by decide +kernel
theorem dX8_sung_63 : decode cX8_sung 63 = .ok (.iastore, 1) := by decide +kernel
theorem dX8_sung_64 : decode cX8_sung 64 = .ok (.iload 4, 2) := by decide +kernel
theorem dX8_sung_66 : decode cX8_sung 66 = .ok (.ireturn, 1) := by decide +kernel
theorem dX8_noDay_0 : decode cX8_noDay 0 = .ok (.iload_n 0, 1) := by decide +kernel
theorem dX8_noDay_1 : decode cX8_noDay 1 = .ok (.i2l, 1) := by decide +kernel
theorem dX8_noDay_2 : decode cX8_noDay 2 = .ok (.lconst 0, 1) := by decide +kernel
theorem dX8_noDay_3 : decode cX8_noDay 3 = .ok (.ldc2_w 203, 3) := by decide +kernel
theorem dX8_noDay_6 : decode cX8_noDay 6 = .ok (.invokestatic 102, 3) := by decide +kernel
theorem dX8_noDay_9 : decode cX8_noDay 9 = .ok (.ifCond .ne 7, 3) := by decide +kernel
theorem dX8_noDay_12 : decode cX8_noDay 12 = .ok (.iconst 1, 1) := by decide +kernel
theorem dX8_noDay_13 : decode cX8_noDay 13 = .ok (.goto 4, 3) := by decide +kernel
theorem dX8_noDay_16 : decode cX8_noDay 16 = .ok (.iconst 0, 1) := by decide +kernel
theorem dX8_noDay_17 : decode cX8_noDay 17 = .ok (.ireturn, 1) := by decide +kernel
theorem dX8_text_0 : decode cX8_text 0 = .ok (.aload_n 0, 1) := by decide +kernel
theorem dX8_text_1 : decode cX8_text 1 = .ok (.iconst 0, 1) := by decide +kernel
theorem dX8_text_2 : decode cX8_text 2 = .ok (.putfield 95, 3) := by decide +kernel
theorem dX8_text_5 : decode cX8_text 5 = .ok (.iload_n 1, 1) := by decide +kernel
theorem dX8_text_6 : decode cX8_text 6 = .ok (.i2l, 1) := by decide +kernel
theorem dX8_text_7 : decode cX8_text 7 = .ok (.lconst 0, 1) := by decide +kernel
theorem dX8_text_8 : decode cX8_text 8 = .ok (.ldc2_w 205, 3) := by decide +kernel
theorem dX8_text_11 : decode cX8_text 11 = .ok (.invokestatic 102, 3) := by decide +kernel
theorem dX8_text_14 : decode cX8_text 14 = .ok (.ifCond .eq 39, 3) := by decide +kernel
theorem dX8_text_17 : decode cX8_text 17 = .ok (.iload_n 2, 1) := by decide +kernel
theorem dX8_text_18 : decode cX8_text 18 = .ok (.bipush (-9), 2) := by decide +kernel
theorem dX8_text_20 : decode cX8_text 20 = .ok (.if_icmp .eq 15, 3) := by decide +kernel
theorem dX8_text_23 : decode cX8_text 23 = .ok (.iload_n 2, 1) := by decide +kernel
theorem dX8_text_24 : decode cX8_text 24 = .ok (.i2l, 1) := by decide +kernel
theorem dX8_text_25 : decode cX8_text 25 = .ok (.lconst 0, 1) := by decide +kernel
theorem dX8_text_26 : decode cX8_text 26 = .ok (.ldc2_w 145, 3) := by decide +kernel
theorem dX8_text_29 : decode cX8_text 29 = .ok (.invokestatic 102, 3) := by decide +kernel
theorem dX8_text_32 : decode cX8_text 32 = .ok (.ifCond .eq 21, 3) := by decide +kernel
theorem dX8_text_35 : decode cX8_text 35 = .ok (.iload_n 3, 1) := by decide +kernel
theorem dX8_text_36 : decode cX8_text 36 = .ok (.bipush (-9), 2) := by decide +kernel
theorem dX8_text_38 : decode cX8_text 38 = .ok (.if_icmp .eq 17, 3) := by decide +kernel
theorem dX8_text_41 : decode cX8_text 41 = .ok (.iload_n 3, 1) := by decide +kernel
theorem dX8_text_42 : decode cX8_text 42 = .ok (.i2l, 1) := by decide +kernel
theorem dX8_text_43 : decode cX8_text 43 = .ok (.lconst 0, 1) := by decide +kernel
theorem dX8_text_44 : decode cX8_text 44 = .ok (.ldc2_w 207, 3) := by decide +kernel
theorem dX8_text_47 : decode cX8_text 47 = .ok (.invokestatic 102, 3) := by decide +kernel
theorem dX8_text_50 : decode cX8_text 50 = .ok (.ifCond .ne 5, 3) := by decide +kernel
theorem dX8_text_53 : decode cX8_text 53 = .ok (.iconst (-1), 1) := by decide +kernel
theorem dX8_text_54 : decode cX8_text 54 = .ok (.ireturn, 1) := by decide +kernel
theorem dX8_text_55 : decode cX8_text 55 = .ok (.iload 4, 2) := by decide +kernel
theorem dX8_text_57 : decode cX8_text 57 = .ok (.invokestatic 209, 3) := by decide +kernel
theorem dX8_text_60 : decode cX8_text 60 = .ok (.ifCond .eq 6, 3) := by decide +kernel
theorem dX8_text_63 : decode cX8_text 63 = .ok (.bipush (-2), 2) := by decide +kernel
theorem dX8_text_65 : decode cX8_text 65 = .ok (.ireturn, 1) := by decide +kernel
theorem dX8_text_66 : decode cX8_text 66 = .ok (.aload_n 0, 1) := by decide +kernel
theorem dX8_text_67 : decode cX8_text 67 = .ok (.getfield 212, 3) := by decide +kernel
theorem dX8_text_70 : decode cX8_text 70 = .ok (.bipush 60, 2) := by decide +kernel
theorem dX8_text_72 : decode cX8_text 72 = .ok (.if_icmp .ne 6, 3) := by decide +kernel
theorem dX8_text_75 : decode cX8_text 75 = .ok (.bipush (-4), 2) := by decide +kernel
theorem dX8_text_77 : decode cX8_text 77 = .ok (.ireturn, 1) := by decide +kernel
theorem dX8_text_78 : decode cX8_text 78 = .ok (.aload_n 0, 1) := by decide +kernel
theorem dX8_text_79 : decode cX8_text 79 = .ok (.getfield 65, 3) := by decide +kernel
theorem dX8_text_82 : decode cX8_text 82 = .ok (.aload_n 0, 1) := by decide +kernel
theorem dX8_text_83 : decode cX8_text 83 = .ok (.getfield 212, 3) := by decide +kernel
theorem dX8_text_86 : decode cX8_text 86 = .ok (.iload_n 1, 1) := by decide +kernel
theorem dX8_text_87 : decode cX8_text 87 = .ok (.iastore, 1) := by decide +kernel
theorem dX8_text_88 : decode cX8_text 88 = .ok (.aload_n 0, 1) := by decide +kernel
theorem dX8_text_89 : decode cX8_text 89 = .ok (.getfield 68, 3) := by decide +kernel
theorem dX8_text_92 : decode cX8_text 92 = .ok (.aload_n 0, 1) := by decide +kernel
theorem dX8_text_93 : decode cX8_text 93 = .ok (.getfield 212, 3) := by decide +kernel
theorem dX8_text_96 : decode cX8_text 96 = .ok (.iload_n 2, 1) := by decide +kernel
theorem dX8_text_97 : decode cX8_text 97 = .ok (.iastore, 1) := by decide +kernel
theorem dX8_text_98 : decode cX8_text 98 = .ok (.aload_n 0, 1) := by decide +kernel
theorem dX8_text_99 : decode cX8_text 99 = .ok (.getfield 71, 3) := by decide +kernel
theorem dX8_text_102 : decode cX8_text 102 = .ok (.aload_n 0, 1) := by decide +kernel
theorem dX8_text_103 : decode cX8_text 103 = .ok (.getfield 212, 3) := by decide +kernel
theorem dX8_text_106 : decode cX8_text 106 = .ok (.iload_n 3, 1) := by decide +kernel
theorem dX8_text_107 : decode cX8_text 107 = .ok (.iastore, 1) := by decide +kernel
theorem dX8_text_108 : decode cX8_text 108 = .ok (.aload_n 0, 1) := by decide +kernel
theorem dX8_text_109 : decode cX8_text 109 = .ok (.getfield 74, 3) := by decide +kernel
theorem dX8_text_112 : decode cX8_text 112 = .ok (.aload_n 0, 1) := by decide +kernel
theorem dX8_text_113 : decode cX8_text 113 = .ok (.getfield 212, 3) := by decide +kernel
theorem dX8_text_116 : decode cX8_text 116 = .ok (.iload 4, 2) := by decide +kernel
theorem dX8_text_118 : decode cX8_text 118 = .ok (.iastore, 1) := by decide +kernel
theorem dX8_text_119 : decode cX8_text 119 = .ok (.aload_n 0, 1) := by decide +kernel
theorem dX8_text_120 : decode cX8_text 120 = .ok (.getfield 77, 3) := by decide +kernel
theorem dX8_text_123 : decode cX8_text 123 = .ok (.aload_n 0, 1) := by decide +kernel
theorem dX8_text_124 : decode cX8_text 124 = .ok (.getfield 212, 3) := by decide +kernel
theorem dX8_text_127 : decode cX8_text 127 = .ok (.iload 5, 2) := by decide +kernel
theorem dX8_text_129 : decode cX8_text 129 = .ok (.bastore, 1) := by decide +kernel
theorem dX8_text_130 : decode cX8_text 130 = .ok (.aload_n 0, 1) := by decide +kernel
theorem dX8_text_131 : decode cX8_text 131 = .ok (.dup, 1) := by decide +kernel
theorem dX8_text_132 : decode cX8_text 132 = .ok (.getfield 212, 3) := by decide +kernel
theorem dX8_text_135 : decode cX8_text 135 = .ok (.iconst 1, 1) := by decide +kernel
theorem dX8_text_136 : decode cX8_text 136 = .ok (.iadd, 1) := by decide +kernel
theorem dX8_text_137 : decode cX8_text 137 = .ok (.putfield 212, 3) := by decide +kernel
theorem dX8_text_140 : decode cX8_text 140 = .ok (.aload_n 0, 1) := by decide +kernel
theorem dX8_text_141 : decode cX8_text 141 = .ok (.getfield 212, 3) := by decide +kernel
theorem dX8_text_144 : decode cX8_text 144 = .ok (.iconst 1, 1) := by decide +kernel
theorem dX8_text_145 : decode cX8_text 145 = .ok (.isub, 1) := by decide +kernel
theorem dX8_text_146 : decode cX8_text 146 = .ok (.ireturn, 1) := by decide +kernel
theorem dX8_countsOf_0 : decode cX8_countsOf 0 = .ok (.bipush (-9), 2) := by decide +kernel
theorem dX8_countsOf_2 : decode cX8_countsOf 2 = .ok (.istore 5, 2) := by decide +kernel
theorem dX8_countsOf_4 : decode cX8_countsOf 4 = .ok (.iconst 0, 1) := by decide +kernel
theorem dX8_countsOf_5 : decode cX8_countsOf 5 = .ok (.istore 6, 2) := by decide +kernel
theorem dX8_countsOf_7 : decode cX8_countsOf 7 = .ok (.iload 6, 2) := by decide +kernel
theorem dX8_countsOf_9 : decode cX8_countsOf 9 = .ok (.aload_n 0, 1) := by decide +kernel
theorem dX8_countsOf_10 : decode cX8_countsOf 10 = .ok (.getfield 212, 3) := by decide +kernel
theorem dX8_countsOf_13 : decode cX8_countsOf 13 = .ok (.if_icmp .ge 123, 3) := by decide +kernel
theorem dX8_countsOf_16 : decode cX8_countsOf 16 = .ok (.aload_n 0, 1) := by decide +kernel
theorem dX8_countsOf_17 : decode cX8_countsOf 17 = .ok (.getfield 65, 3) := by decide +kernel
theorem dX8_countsOf_20 : decode cX8_countsOf 20 = .ok (.iload 6, 2) := by decide +kernel
theorem dX8_countsOf_22 : decode cX8_countsOf 22 = .ok (.iaload, 1) := by decide +kernel
theorem dX8_countsOf_23 : decode cX8_countsOf 23 = .ok (.iload_n 1, 1) := by decide +kernel
theorem dX8_countsOf_24 : decode cX8_countsOf 24 = .ok (.if_icmp .ne 65, 3) := by decide +kernel
theorem dX8_countsOf_27 : decode cX8_countsOf 27 = .ok (.aload_n 0, 1) := by decide +kernel
theorem dX8_countsOf_28 : decode cX8_countsOf 28 = .ok (.getfield 68, 3) := by decide +kernel
theorem dX8_countsOf_31 : decode cX8_countsOf 31 = .ok (.iload 6, 2) := by decide +kernel
theorem dX8_countsOf_33 : decode cX8_countsOf 33 = .ok (.iaload, 1) := by decide +kernel
theorem dX8_countsOf_34 : decode cX8_countsOf 34 = .ok (.bipush (-9), 2) := by decide +kernel
theorem dX8_countsOf_36 : decode cX8_countsOf 36 = .ok (.if_icmp .eq 14, 3) := by decide +kernel
theorem dX8_countsOf_39 : decode cX8_countsOf 39 = .ok (.aload_n 0, 1) := by decide +kernel
theorem dX8_countsOf_40 : decode cX8_countsOf 40 = .ok (.getfield 68, 3) := by decide +kernel
theorem dX8_countsOf_43 : decode cX8_countsOf 43 = .ok (.iload 6, 2) := by decide +kernel
theorem dX8_countsOf_45 : decode cX8_countsOf 45 = .ok (.iaload, 1) := by decide +kernel
theorem dX8_countsOf_46 : decode cX8_countsOf 46 = .ok (.iload_n 2, 1) := by decide +kernel
theorem dX8_countsOf_47 : decode cX8_countsOf 47 = .ok (.if_icmp .ne 42, 3) := by decide +kernel
theorem dX8_countsOf_50 : decode cX8_countsOf 50 = .ok (.aload_n 0, 1) := by decide +kernel
theorem dX8_countsOf_51 : decode cX8_countsOf 51 = .ok (.getfield 71, 3) := by decide +kernel
theorem dX8_countsOf_54 : decode cX8_countsOf 54 = .ok (.iload 6, 2) := by decide +kernel
theorem dX8_countsOf_56 : decode cX8_countsOf 56 = .ok (.iaload, 1) := by decide +kernel
theorem dX8_countsOf_57 : decode cX8_countsOf 57 = .ok (.bipush (-9), 2) := by decide +kernel
theorem dX8_countsOf_59 : decode cX8_countsOf 59 = .ok (.if_icmp .eq 14, 3) := by decide +kernel
theorem dX8_countsOf_62 : decode cX8_countsOf 62 = .ok (.aload_n 0, 1) := by decide +kernel
theorem dX8_countsOf_63 : decode cX8_countsOf 63 = .ok (.getfield 71, 3) := by decide +kernel
theorem dX8_countsOf_66 : decode cX8_countsOf 66 = .ok (.iload 6, 2) := by decide +kernel
theorem dX8_countsOf_68 : decode cX8_countsOf 68 = .ok (.iaload, 1) := by decide +kernel
theorem dX8_countsOf_69 : decode cX8_countsOf 69 = .ok (.iload_n 3, 1) := by decide +kernel
theorem dX8_countsOf_70 : decode cX8_countsOf 70 = .ok (.if_icmp .ne 19, 3) := by decide +kernel
theorem dX8_countsOf_73 : decode cX8_countsOf 73 = .ok (.aload_n 0, 1) := by decide +kernel
theorem dX8_countsOf_74 : decode cX8_countsOf 74 = .ok (.getfield 74, 3) := by decide +kernel
theorem dX8_countsOf_77 : decode cX8_countsOf 77 = .ok (.iload 6, 2) := by decide +kernel
theorem dX8_countsOf_79 : decode cX8_countsOf 79 = .ok (.iaload, 1) := by decide +kernel
theorem dX8_countsOf_80 : decode cX8_countsOf 80 = .ok (.iload 4, 2) := by decide +kernel
theorem dX8_countsOf_82 : decode cX8_countsOf 82 = .ok (.if_icmp .gt 7, 3) := by decide +kernel
theorem dX8_countsOf_85 : decode cX8_countsOf 85 = .ok (.iconst 1, 1) := by decide +kernel
theorem dX8_countsOf_86 : decode cX8_countsOf 86 = .ok (.goto 4, 3) := by decide +kernel
theorem dX8_countsOf_89 : decode cX8_countsOf 89 = .ok (.iconst 0, 1) := by decide +kernel
theorem dX8_countsOf_90 : decode cX8_countsOf 90 = .ok (.istore 7, 2) := by decide +kernel
theorem dX8_countsOf_92 : decode cX8_countsOf 92 = .ok (.iload 7, 2) := by decide +kernel
theorem dX8_countsOf_94 : decode cX8_countsOf 94 = .ok (.ifCond .eq 32, 3) := by decide +kernel
theorem dX8_countsOf_97 : decode cX8_countsOf 97 = .ok (.iload 5, 2) := by decide +kernel
theorem dX8_countsOf_99 : decode cX8_countsOf 99 = .ok (.bipush (-9), 2) := by decide +kernel
theorem dX8_countsOf_101 : decode cX8_countsOf 101 = .ok (.if_icmp .eq 20, 3) := by decide +kernel
theorem dX8_countsOf_104 : decode cX8_countsOf 104 = .ok (.aload_n 0, 1) := by decide +kernel
theorem dX8_countsOf_105 : decode cX8_countsOf 105 = .ok (.getfield 74, 3) := by decide +kernel
theorem dX8_countsOf_108 : decode cX8_countsOf 108 = .ok (.iload 6, 2) := by decide +kernel
theorem dX8_countsOf_110 : decode cX8_countsOf 110 = .ok (.iaload, 1) := by decide +kernel
theorem dX8_countsOf_111 : decode cX8_countsOf 111 = .ok (.aload_n 0, 1) := by decide +kernel
theorem dX8_countsOf_112 : decode cX8_countsOf 112 = .ok (.getfield 74, 3) := by decide +kernel
theorem dX8_countsOf_115 : decode cX8_countsOf 115 = .ok (.iload 5, 2) := by decide +kernel
theorem dX8_countsOf_117 : decode cX8_countsOf 117 = .ok (.iaload, 1) := by decide +kernel
theorem dX8_countsOf_118 : decode cX8_countsOf 118 = .ok (.if_icmp .lt 8, 3) := by decide +kernel
theorem dX8_countsOf_121 : decode cX8_countsOf 121 = .ok (.iload 6, 2) := by decide +kernel
theorem dX8_countsOf_123 : decode cX8_countsOf 123 = .ok (.goto 5, 3) := by decide +kernel
theorem dX8_countsOf_126 : decode cX8_countsOf 126 = .ok (.iload 5, 2) := by decide +kernel
theorem dX8_countsOf_128 : decode cX8_countsOf 128 = .ok (.istore 5, 2) := by decide +kernel
theorem dX8_countsOf_130 : decode cX8_countsOf 130 = .ok (.iinc 6 1, 3) := by decide +kernel
theorem dX8_countsOf_133 : decode cX8_countsOf 133 = .ok (.goto (-126), 3) := by decide +kernel
theorem dX8_countsOf_136 : decode cX8_countsOf 136 = .ok (.iload 5, 2) := by decide +kernel
theorem dX8_countsOf_138 : decode cX8_countsOf 138 = .ok (.ireturn, 1) := by decide +kernel
theorem dX8_counts_0 : decode cX8_counts 0 = .ok (.aload_n 0, 1) := by decide +kernel
theorem dX8_counts_1 : decode cX8_counts 1 = .ok (.iconst 0, 1) := by decide +kernel
theorem dX8_counts_2 : decode cX8_counts 2 = .ok (.putfield 95, 3) := by decide +kernel
theorem dX8_counts_5 : decode cX8_counts 5 = .ok (.iload_n 1, 1) := by decide +kernel
theorem dX8_counts_6 : decode cX8_counts 6 = .ok (.i2l, 1) := by decide +kernel
theorem dX8_counts_7 : decode cX8_counts 7 = .ok (.lconst 0, 1) := by decide +kernel
theorem dX8_counts_8 : decode cX8_counts 8 = .ok (.ldc2_w 205, 3) := by decide +kernel
theorem dX8_counts_11 : decode cX8_counts 11 = .ok (.invokestatic 102, 3) := by decide +kernel
theorem dX8_counts_14 : decode cX8_counts 14 = .ok (.ifCond .eq 27, 3) := by decide +kernel
theorem dX8_counts_17 : decode cX8_counts 17 = .ok (.iload_n 2, 1) := by decide +kernel
theorem dX8_counts_18 : decode cX8_counts 18 = .ok (.i2l, 1) := by decide +kernel
theorem dX8_counts_19 : decode cX8_counts 19 = .ok (.lconst 0, 1) := by decide +kernel
theorem dX8_counts_20 : decode cX8_counts 20 = .ok (.ldc2_w 145, 3) := by decide +kernel
theorem dX8_counts_23 : decode cX8_counts 23 = .ok (.invokestatic 102, 3) := by decide +kernel
theorem dX8_counts_26 : decode cX8_counts 26 = .ok (.ifCond .eq 15, 3) := by decide +kernel
theorem dX8_counts_29 : decode cX8_counts 29 = .ok (.iload_n 3, 1) := by decide +kernel
theorem dX8_counts_30 : decode cX8_counts 30 = .ok (.i2l, 1) := by decide +kernel
theorem dX8_counts_31 : decode cX8_counts 31 = .ok (.lconst 0, 1) := by decide +kernel
theorem dX8_counts_32 : decode cX8_counts 32 = .ok (.ldc2_w 207, 3) := by decide +kernel
theorem dX8_counts_35 : decode cX8_counts 35 = .ok (.invokestatic 102, 3) := by decide +kernel
theorem dX8_counts_38 : decode cX8_counts 38 = .ok (.ifCond .ne 5, 3) := by decide +kernel
theorem dX8_counts_41 : decode cX8_counts 41 = .ok (.iconst (-1), 1) := by decide +kernel
theorem dX8_counts_42 : decode cX8_counts 42 = .ok (.ireturn, 1) := by decide +kernel
theorem dX8_counts_43 : decode cX8_counts 43 = .ok (.iload 4, 2) := by decide +kernel
theorem dX8_counts_45 : decode cX8_counts 45 = .ok (.invokestatic 209, 3) := by decide +kernel
theorem dX8_counts_48 : decode cX8_counts 48 = .ok (.ifCond .eq 8, 3) := by decide +kernel
theorem dX8_counts_51 : decode cX8_counts 51 = .ok (.bipush (-2), 2) := by decide +kernel
theorem dX8_counts_53 : decode cX8_counts 53 = .ok (.goto 12, 3) := by decide +kernel
theorem dX8_counts_56 : decode cX8_counts 56 = .ok (.aload_n 0, 1) := by decide +kernel
theorem dX8_counts_57 : decode cX8_counts 57 = .ok (.iload_n 1, 1) := by decide +kernel
theorem dX8_counts_58 : decode cX8_counts 58 = .ok (.iload_n 2, 1) := by decide +kernel
theorem dX8_counts_59 : decode cX8_counts 59 = .ok (.iload_n 3, 1) := by decide +kernel
theorem dX8_counts_60 : decode cX8_counts 60 = .ok (.iload 4, 2) := by decide +kernel
theorem dX8_counts_62 : decode cX8_counts 62 = .ok (.invokevirtual 215, 3) := by decide +kernel
theorem dX8_counts_65 : decode cX8_counts 65 = .ok (.ireturn, 1) := by decide +kernel
theorem dX8_mayHear_0 : decode cX8_mayHear 0 = .ok (.iconst 1, 1) := by decide +kernel
theorem dX8_mayHear_1 : decode cX8_mayHear 1 = .ok (.istore 4, 2) := by decide +kernel
theorem dX8_mayHear_3 : decode cX8_mayHear 3 = .ok (.iconst 0, 1) := by decide +kernel
theorem dX8_mayHear_4 : decode cX8_mayHear 4 = .ok (.istore 5, 2) := by decide +kernel
theorem dX8_mayHear_6 : decode cX8_mayHear 6 = .ok (.iload 5, 2) := by decide +kernel
theorem dX8_mayHear_8 : decode cX8_mayHear 8 = .ok (.bipush 8, 2) := by decide +kernel
theorem dX8_mayHear_10 : decode cX8_mayHear 10 = .ok (.if_icmp .ge 69, 3) := by decide +kernel
theorem dX8_mayHear_13 : decode cX8_mayHear 13 = .ok (.iload 4, 2) := by decide +kernel
theorem dX8_mayHear_15 : decode cX8_mayHear 15 = .ok (.ifCond .eq 64, 3) := by decide +kernel
theorem dX8_mayHear_18 : decode cX8_mayHear 18 = .ok (.aload_n 0, 1) := by decide +kernel
theorem dX8_mayHear_19 : decode cX8_mayHear 19 = .ok (.getfield 37, 3) := by decide +kernel
theorem dX8_mayHear_22 : decode cX8_mayHear 22 = .ok (.iload_n 1, 1) := by decide +kernel
theorem dX8_mayHear_23 : decode cX8_mayHear 23 = .ok (.iaload, 1) := by decide +kernel
theorem dX8_mayHear_24 : decode cX8_mayHear 24 = .ok (.iload 5, 2) := by decide +kernel
theorem dX8_mayHear_26 : decode cX8_mayHear 26 = .ok (.ishr, 1) := by decide +kernel
theorem dX8_mayHear_27 : decode cX8_mayHear 27 = .ok (.iconst 1, 1) := by decide +kernel
theorem dX8_mayHear_28 : decode cX8_mayHear 28 = .ok (.iand, 1) := by decide +kernel
theorem dX8_mayHear_29 : decode cX8_mayHear 29 = .ok (.iconst 1, 1) := by decide +kernel
theorem dX8_mayHear_30 : decode cX8_mayHear 30 = .ok (.if_icmp .ne 43, 3) := by decide +kernel
theorem dX8_mayHear_33 : decode cX8_mayHear 33 = .ok (.aload_n 0, 1) := by decide +kernel
theorem dX8_mayHear_34 : decode cX8_mayHear 34 = .ok (.iload 5, 2) := by decide +kernel
theorem dX8_mayHear_36 : decode cX8_mayHear 36 = .ok (.aload_n 0, 1) := by decide +kernel
theorem dX8_mayHear_37 : decode cX8_mayHear 37 = .ok (.getfield 40, 3) := by decide +kernel
theorem dX8_mayHear_40 : decode cX8_mayHear 40 = .ok (.iload_n 1, 1) := by decide +kernel
theorem dX8_mayHear_41 : decode cX8_mayHear 41 = .ok (.iaload, 1) := by decide +kernel
theorem dX8_mayHear_42 : decode cX8_mayHear 42 = .ok (.iload_n 2, 1) := by decide +kernel
theorem dX8_mayHear_43 : decode cX8_mayHear 43 = .ok (.iload_n 3, 1) := by decide +kernel
theorem dX8_mayHear_44 : decode cX8_mayHear 44 = .ok (.invokevirtual 215, 3) := by decide +kernel
theorem dX8_mayHear_47 : decode cX8_mayHear 47 = .ok (.istore 6, 2) := by decide +kernel
theorem dX8_mayHear_49 : decode cX8_mayHear 49 = .ok (.iload 6, 2) := by decide +kernel
theorem dX8_mayHear_51 : decode cX8_mayHear 51 = .ok (.bipush (-9), 2) := by decide +kernel
theorem dX8_mayHear_53 : decode cX8_mayHear 53 = .ok (.if_icmp .eq 17, 3) := by decide +kernel
theorem dX8_mayHear_56 : decode cX8_mayHear 56 = .ok (.aload_n 0, 1) := by decide +kernel
theorem dX8_mayHear_57 : decode cX8_mayHear 57 = .ok (.getfield 77, 3) := by decide +kernel
theorem dX8_mayHear_60 : decode cX8_mayHear 60 = .ok (.iload 6, 2) := by decide +kernel
theorem dX8_mayHear_62 : decode cX8_mayHear 62 = .ok (.baload, 1) := by decide +kernel
theorem dX8_mayHear_63 : decode cX8_mayHear 63 = .ok (.ifCond .eq 7, 3) := by decide +kernel
theorem dX8_mayHear_66 : decode cX8_mayHear 66 = .ok (.iconst 1, 1) := by decide +kernel
theorem dX8_mayHear_67 : decode cX8_mayHear 67 = .ok (.goto 4, 3) := by decide +kernel
theorem dX8_mayHear_70 : decode cX8_mayHear 70 = .ok (.iconst 0, 1) := by decide +kernel
theorem dX8_mayHear_71 : decode cX8_mayHear 71 = .ok (.istore 4, 2) := by decide +kernel
theorem dX8_mayHear_73 : decode cX8_mayHear 73 = .ok (.iinc 5 1, 3) := by decide +kernel
theorem dX8_mayHear_76 : decode cX8_mayHear 76 = .ok (.goto (-70), 3) := by decide +kernel
theorem dX8_mayHear_79 : decode cX8_mayHear 79 = .ok (.iload 4, 2) := by decide +kernel
theorem dX8_mayHear_81 : decode cX8_mayHear 81 = .ok (.ireturn, 1) := by decide +kernel
theorem dX8_may_0 : decode cX8_may 0 = .ok (.aload_n 0, 1) := by decide +kernel
theorem dX8_may_1 : decode cX8_may 1 = .ok (.iconst 0, 1) := by decide +kernel
theorem dX8_may_2 : decode cX8_may 2 = .ok (.putfield 95, 3) := by decide +kernel
theorem dX8_may_5 : decode cX8_may 5 = .ok (.aload_n 0, 1) := by decide +kernel
theorem dX8_may_6 : decode cX8_may 6 = .ok (.iload_n 1, 1) := by decide +kernel
theorem dX8_may_7 : decode cX8_may 7 = .ok (.invokevirtual 110, 3) := by decide +kernel
theorem dX8_may_10 : decode cX8_may 10 = .ok (.ifCond .ne 15, 3) := by decide +kernel
theorem dX8_may_13 : decode cX8_may 13 = .ok (.iload_n 2, 1) := by decide +kernel
theorem dX8_may_14 : decode cX8_may 14 = .ok (.i2l, 1) := by decide +kernel
theorem dX8_may_15 : decode cX8_may 15 = .ok (.lconst 0, 1) := by decide +kernel
theorem dX8_may_16 : decode cX8_may 16 = .ok (.ldc2_w 207, 3) := by decide +kernel
theorem dX8_may_19 : decode cX8_may 19 = .ok (.invokestatic 102, 3) := by decide +kernel
theorem dX8_may_22 : decode cX8_may 22 = .ok (.ifCond .ne 5, 3) := by decide +kernel
theorem dX8_may_25 : decode cX8_may 25 = .ok (.iconst (-1), 1) := by decide +kernel
theorem dX8_may_26 : decode cX8_may 26 = .ok (.ireturn, 1) := by decide +kernel
theorem dX8_may_27 : decode cX8_may 27 = .ok (.iload_n 3, 1) := by decide +kernel
theorem dX8_may_28 : decode cX8_may 28 = .ok (.invokestatic 209, 3) := by decide +kernel
theorem dX8_may_31 : decode cX8_may 31 = .ok (.ifCond .eq 8, 3) := by decide +kernel
theorem dX8_may_34 : decode cX8_may 34 = .ok (.bipush (-2), 2) := by decide +kernel
theorem dX8_may_36 : decode cX8_may 36 = .ok (.goto 18, 3) := by decide +kernel
theorem dX8_may_39 : decode cX8_may 39 = .ok (.aload_n 0, 1) := by decide +kernel
theorem dX8_may_40 : decode cX8_may 40 = .ok (.iload_n 1, 1) := by decide +kernel
theorem dX8_may_41 : decode cX8_may 41 = .ok (.iload_n 2, 1) := by decide +kernel
theorem dX8_may_42 : decode cX8_may 42 = .ok (.iload_n 3, 1) := by decide +kernel
theorem dX8_may_43 : decode cX8_may 43 = .ok (.invokevirtual 219, 3) := by decide +kernel
theorem dX8_may_46 : decode cX8_may 46 = .ok (.ifCond .eq 7, 3) := by decide +kernel
theorem dX8_may_49 : decode cX8_may 49 = .ok (.iconst 1, 1) := by decide +kernel
theorem dX8_may_50 : decode cX8_may 50 = .ok (.goto 4, 3) := by decide +kernel
theorem dX8_may_53 : decode cX8_may 53 = .ok (.iconst 0, 1) := by decide +kernel
theorem dX8_may_54 : decode cX8_may 54 = .ok (.ireturn, 1) := by decide +kernel
theorem dX8_heardOf_0 : decode cX8_heardOf 0 = .ok (.iconst 0, 1) := by decide +kernel
theorem dX8_heardOf_1 : decode cX8_heardOf 1 = .ok (.istore_n 3, 1) := by decide +kernel
theorem dX8_heardOf_2 : decode cX8_heardOf 2 = .ok (.iconst 0, 1) := by decide +kernel
theorem dX8_heardOf_3 : decode cX8_heardOf 3 = .ok (.istore 4, 2) := by decide +kernel
theorem dX8_heardOf_5 : decode cX8_heardOf 5 = .ok (.iload 4, 2) := by decide +kernel
theorem dX8_heardOf_7 : decode cX8_heardOf 7 = .ok (.aload_n 0, 1) := by decide +kernel
theorem dX8_heardOf_8 : decode cX8_heardOf 8 = .ok (.getfield 99, 3) := by decide +kernel
theorem dX8_heardOf_11 : decode cX8_heardOf 11 = .ok (.if_icmp .ge 31, 3) := by decide +kernel
theorem dX8_heardOf_14 : decode cX8_heardOf 14 = .ok (.iload_n 3, 1) := by decide +kernel
theorem dX8_heardOf_15 : decode cX8_heardOf 15 = .ok (.aload_n 0, 1) := by decide +kernel
theorem dX8_heardOf_16 : decode cX8_heardOf 16 = .ok (.iload 4, 2) := by decide +kernel
theorem dX8_heardOf_18 : decode cX8_heardOf 18 = .ok (.iload_n 1, 1) := by decide +kernel
theorem dX8_heardOf_19 : decode cX8_heardOf 19 = .ok (.iload_n 2, 1) := by decide +kernel
theorem dX8_heardOf_20 : decode cX8_heardOf 20 = .ok (.invokevirtual 219, 3) := by decide +kernel
theorem dX8_heardOf_23 : decode cX8_heardOf 23 = .ok (.ifCond .eq 10, 3) := by decide +kernel
theorem dX8_heardOf_26 : decode cX8_heardOf 26 = .ok (.iconst 1, 1) := by decide +kernel
theorem dX8_heardOf_27 : decode cX8_heardOf 27 = .ok (.iload 4, 2) := by decide +kernel
theorem dX8_heardOf_29 : decode cX8_heardOf 29 = .ok (.ishl, 1) := by decide +kernel
theorem dX8_heardOf_30 : decode cX8_heardOf 30 = .ok (.goto 4, 3) := by decide +kernel
theorem dX8_heardOf_33 : decode cX8_heardOf 33 = .ok (.iconst 0, 1) := by decide +kernel
theorem dX8_heardOf_34 : decode cX8_heardOf 34 = .ok (.ior, 1) := by decide +kernel
theorem dX8_heardOf_35 : decode cX8_heardOf 35 = .ok (.istore_n 3, 1) := by decide +kernel
theorem dX8_heardOf_36 : decode cX8_heardOf 36 = .ok (.iinc 4 1, 3) := by decide +kernel
theorem dX8_heardOf_39 : decode cX8_heardOf 39 = .ok (.goto (-34), 3) := by decide +kernel
theorem dX8_heardOf_42 : decode cX8_heardOf 42 = .ok (.iload_n 3, 1) := by decide +kernel
theorem dX8_heardOf_43 : decode cX8_heardOf 43 = .ok (.ireturn, 1) := by decide +kernel
theorem dX8_heard_0 : decode cX8_heard 0 = .ok (.aload_n 0, 1) := by decide +kernel
theorem dX8_heard_1 : decode cX8_heard 1 = .ok (.iconst 0, 1) := by decide +kernel
theorem dX8_heard_2 : decode cX8_heard 2 = .ok (.putfield 95, 3) := by decide +kernel
theorem dX8_heard_5 : decode cX8_heard 5 = .ok (.iload_n 1, 1) := by decide +kernel
theorem dX8_heard_6 : decode cX8_heard 6 = .ok (.i2l, 1) := by decide +kernel
theorem dX8_heard_7 : decode cX8_heard 7 = .ok (.lconst 0, 1) := by decide +kernel
theorem dX8_heard_8 : decode cX8_heard 8 = .ok (.ldc2_w 207, 3) := by decide +kernel
theorem dX8_heard_11 : decode cX8_heard 11 = .ok (.invokestatic 102, 3) := by decide +kernel
theorem dX8_heard_14 : decode cX8_heard 14 = .ok (.ifCond .ne 5, 3) := by decide +kernel
theorem dX8_heard_17 : decode cX8_heard 17 = .ok (.iconst (-1), 1) := by decide +kernel
theorem dX8_heard_18 : decode cX8_heard 18 = .ok (.ireturn, 1) := by decide +kernel
theorem dX8_heard_19 : decode cX8_heard 19 = .ok (.iload_n 2, 1) := by decide +kernel
theorem dX8_heard_20 : decode cX8_heard 20 = .ok (.invokestatic 209, 3) := by decide +kernel
theorem dX8_heard_23 : decode cX8_heard 23 = .ok (.ifCond .eq 8, 3) := by decide +kernel
theorem dX8_heard_26 : decode cX8_heard 26 = .ok (.bipush (-2), 2) := by decide +kernel
theorem dX8_heard_28 : decode cX8_heard 28 = .ok (.goto 9, 3) := by decide +kernel
theorem dX8_heard_31 : decode cX8_heard 31 = .ok (.aload_n 0, 1) := by decide +kernel
theorem dX8_heard_32 : decode cX8_heard 32 = .ok (.iload_n 1, 1) := by decide +kernel
theorem dX8_heard_33 : decode cX8_heard 33 = .ok (.iload_n 2, 1) := by decide +kernel
theorem dX8_heard_34 : decode cX8_heard 34 = .ok (.invokevirtual 222, 3) := by decide +kernel
theorem dX8_heard_37 : decode cX8_heard 37 = .ok (.ireturn, 1) := by decide +kernel
theorem dX8_days_0 : decode cX8_days 0 = .ok (.aload_n 0, 1) := by decide +kernel
theorem dX8_days_1 : decode cX8_days 1 = .ok (.iconst 0, 1) := by decide +kernel
theorem dX8_days_2 : decode cX8_days 2 = .ok (.putfield 95, 3) := by decide +kernel
theorem dX8_days_5 : decode cX8_days 5 = .ok (.aload_n 0, 1) := by decide +kernel
theorem dX8_days_6 : decode cX8_days 6 = .ok (.iload_n 1, 1) := by decide +kernel
theorem dX8_days_7 : decode cX8_days 7 = .ok (.invokevirtual 149, 3) := by decide +kernel
theorem dX8_days_10 : decode cX8_days 10 = .ok (.ifCond .ne 15, 3) := by decide +kernel
theorem dX8_days_13 : decode cX8_days 13 = .ok (.iload_n 2, 1) := by decide +kernel
theorem dX8_days_14 : decode cX8_days 14 = .ok (.i2l, 1) := by decide +kernel
theorem dX8_days_15 : decode cX8_days 15 = .ok (.lconst 0, 1) := by decide +kernel
theorem dX8_days_16 : decode cX8_days 16 = .ok (.ldc2_w 207, 3) := by decide +kernel
theorem dX8_days_19 : decode cX8_days 19 = .ok (.invokestatic 102, 3) := by decide +kernel
theorem dX8_days_22 : decode cX8_days 22 = .ok (.ifCond .ne 5, 3) := by decide +kernel
theorem dX8_days_25 : decode cX8_days 25 = .ok (.iconst (-1), 1) := by decide +kernel
theorem dX8_days_26 : decode cX8_days 26 = .ok (.ireturn, 1) := by decide +kernel
theorem dX8_days_27 : decode cX8_days 27 = .ok (.iload_n 3, 1) := by decide +kernel
theorem dX8_days_28 : decode cX8_days 28 = .ok (.invokestatic 209, 3) := by decide +kernel
theorem dX8_days_31 : decode cX8_days 31 = .ok (.ifCond .ne 17, 3) := by decide +kernel
theorem dX8_days_34 : decode cX8_days 34 = .ok (.iload 4, 2) := by decide +kernel
theorem dX8_days_36 : decode cX8_days 36 = .ok (.invokestatic 209, 3) := by decide +kernel
theorem dX8_days_39 : decode cX8_days 39 = .ok (.ifCond .ne 9, 3) := by decide +kernel
theorem dX8_days_42 : decode cX8_days 42 = .ok (.iload 4, 2) := by decide +kernel
theorem dX8_days_44 : decode cX8_days 44 = .ok (.iload_n 3, 1) := by decide +kernel
theorem dX8_days_45 : decode cX8_days 45 = .ok (.if_icmp .ge 6, 3) := by decide +kernel
theorem dX8_days_48 : decode cX8_days 48 = .ok (.bipush (-2), 2) := by decide +kernel
theorem dX8_days_50 : decode cX8_days 50 = .ok (.ireturn, 1) := by decide +kernel
theorem dX8_days_51 : decode cX8_days 51 = .ok (.iconst 0, 1) := by decide +kernel
theorem dX8_days_52 : decode cX8_days 52 = .ok (.istore 5, 2) := by decide +kernel
theorem dX8_days_54 : decode cX8_days 54 = .ok (.iload_n 3, 1) := by decide +kernel
theorem dX8_days_55 : decode cX8_days 55 = .ok (.istore 6, 2) := by decide +kernel
theorem dX8_days_57 : decode cX8_days 57 = .ok (.iload 6, 2) := by decide +kernel
theorem dX8_days_59 : decode cX8_days 59 = .ok (.iload 4, 2) := by decide +kernel
theorem dX8_days_61 : decode cX8_days 61 = .ok (.if_icmp .gt 100, 3) := by decide +kernel
theorem dX8_days_64 : decode cX8_days 64 = .ok (.iload 4, 2) := by decide +kernel
theorem dX8_days_66 : decode cX8_days 66 = .ok (.iconst 1, 1) := by decide +kernel
theorem dX8_days_67 : decode cX8_days 67 = .ok (.iadd, 1) := by decide +kernel
theorem dX8_days_68 : decode cX8_days 68 = .ok (.istore 7, 2) := by decide +kernel
theorem dX8_days_70 : decode cX8_days 70 = .ok (.iconst 0, 1) := by decide +kernel
theorem dX8_days_71 : decode cX8_days 71 = .ok (.istore 8, 2) := by decide +kernel
theorem dX8_days_73 : decode cX8_days 73 = .ok (.iload 8, 2) := by decide +kernel
theorem dX8_days_75 : decode cX8_days 75 = .ok (.aload_n 0, 1) := by decide +kernel
theorem dX8_days_76 : decode cX8_days 76 = .ok (.getfield 212, 3) := by decide +kernel
theorem dX8_days_79 : decode cX8_days 79 = .ok (.if_icmp .ge 47, 3) := by decide +kernel
theorem dX8_days_82 : decode cX8_days 82 = .ok (.aload_n 0, 1) := by decide +kernel
theorem dX8_days_83 : decode cX8_days 83 = .ok (.getfield 74, 3) := by decide +kernel
theorem dX8_days_86 : decode cX8_days 86 = .ok (.iload 8, 2) := by decide +kernel
theorem dX8_days_88 : decode cX8_days 88 = .ok (.iaload, 1) := by decide +kernel
theorem dX8_days_89 : decode cX8_days 89 = .ok (.iload 6, 2) := by decide +kernel
theorem dX8_days_91 : decode cX8_days 91 = .ok (.if_icmp .le 25, 3) := by decide +kernel
theorem dX8_days_94 : decode cX8_days 94 = .ok (.aload_n 0, 1) := by decide +kernel
theorem dX8_days_95 : decode cX8_days 95 = .ok (.getfield 74, 3) := by decide +kernel
theorem dX8_days_98 : decode cX8_days 98 = .ok (.iload 8, 2) := by decide +kernel
theorem dX8_days_100 : decode cX8_days 100 = .ok (.iaload, 1) := by decide +kernel
theorem dX8_days_101 : decode cX8_days 101 = .ok (.iload 7, 2) := by decide +kernel
theorem dX8_days_103 : decode cX8_days 103 = .ok (.if_icmp .ge 13, 3) := by decide +kernel
theorem dX8_days_106 : decode cX8_days 106 = .ok (.aload_n 0, 1) := by decide +kernel
theorem dX8_days_107 : decode cX8_days 107 = .ok (.getfield 74, 3) := by decide +kernel
theorem dX8_days_110 : decode cX8_days 110 = .ok (.iload 8, 2) := by decide +kernel
theorem dX8_days_112 : decode cX8_days 112 = .ok (.iaload, 1) := by decide +kernel
theorem dX8_days_113 : decode cX8_days 113 = .ok (.goto 5, 3) := by decide +kernel
theorem dX8_days_116 : decode cX8_days 116 = .ok (.iload 7, 2) := by decide +kernel
theorem dX8_days_118 : decode cX8_days 118 = .ok (.istore 7, 2) := by decide +kernel
theorem dX8_days_120 : decode cX8_days 120 = .ok (.iinc 8 1, 3) := by decide +kernel
theorem dX8_days_123 : decode cX8_days 123 = .ok (.goto (-50), 3) := by decide +kernel
theorem dX8_days_126 : decode cX8_days 126 = .ok (.iload 5, 2) := by decide +kernel
theorem dX8_days_128 : decode cX8_days 128 = .ok (.iload_n 1, 1) := by decide +kernel
theorem dX8_days_129 : decode cX8_days 129 = .ok (.aload_n 0, 1) := by decide +kernel
theorem dX8_days_130 : decode cX8_days 130 = .ok (.iload_n 2, 1) := by decide +kernel
theorem dX8_days_131 : decode cX8_days 131 = .ok (.iload 6, 2) := by decide +kernel
theorem dX8_days_133 : decode cX8_days 133 = .ok (.invokevirtual 222, 3) := by decide +kernel
theorem dX8_days_136 : decode cX8_days 136 = .ok (.iconst (-1), 1) := by decide +kernel
theorem dX8_days_137 : decode cX8_days 137 = .ok (.ixor, 1) := by decide +kernel
theorem dX8_days_138 : decode cX8_days 138 = .ok (.iand, 1) := by decide +kernel
theorem dX8_days_139 : decode cX8_days 139 = .ok (.ifCond .ne 11, 3) := by decide +kernel
theorem dX8_days_142 : decode cX8_days 142 = .ok (.iload 7, 2) := by decide +kernel
theorem dX8_days_144 : decode cX8_days 144 = .ok (.iload 6, 2) := by decide +kernel
theorem dX8_days_146 : decode cX8_days 146 = .ok (.isub, 1) := by decide +kernel
theorem dX8_days_147 : decode cX8_days 147 = .ok (.goto 4, 3) := by decide +kernel
theorem dX8_days_150 : decode cX8_days 150 = .ok (.iconst 0, 1) := by decide +kernel
theorem dX8_days_151 : decode cX8_days 151 = .ok (.iadd, 1) := by decide +kernel
theorem dX8_days_152 : decode cX8_days 152 = .ok (.istore 5, 2) := by decide +kernel
theorem dX8_days_154 : decode cX8_days 154 = .ok (.iload 7, 2) := by decide +kernel
theorem dX8_days_156 : decode cX8_days 156 = .ok (.istore 6, 2) := by decide +kernel
theorem dX8_days_158 : decode cX8_days 158 = .ok (.goto (-101), 3) := by decide +kernel
theorem dX8_days_161 : decode cX8_days 161 = .ok (.iload 5, 2) := by decide +kernel
theorem dX8_days_163 : decode cX8_days 163 = .ok (.ireturn, 1) := by decide +kernel
theorem dX8_stepsTo_0 : decode cX8_stepsTo 0 = .ok (.iconst 0, 1) := by decide +kernel
theorem dX8_stepsTo_1 : decode cX8_stepsTo 1 = .ok (.istore_n 3, 1) := by decide +kernel
theorem dX8_stepsTo_2 : decode cX8_stepsTo 2 = .ok (.iload_n 1, 1) := by decide +kernel
theorem dX8_stepsTo_3 : decode cX8_stepsTo 3 = .ok (.istore 4, 2) := by decide +kernel
theorem dX8_stepsTo_5 : decode cX8_stepsTo 5 = .ok (.iload 4, 2) := by decide +kernel
theorem dX8_stepsTo_7 : decode cX8_stepsTo 7 = .ok (.iload_n 2, 1) := by decide +kernel
theorem dX8_stepsTo_8 : decode cX8_stepsTo 8 = .ok (.if_icmp .eq 25, 3) := by decide +kernel
theorem dX8_stepsTo_11 : decode cX8_stepsTo 11 = .ok (.iload 4, 2) := by decide +kernel
theorem dX8_stepsTo_13 : decode cX8_stepsTo 13 = .ok (.bipush (-9), 2) := by decide +kernel
theorem dX8_stepsTo_15 : decode cX8_stepsTo 15 = .ok (.if_icmp .eq 18, 3) := by decide +kernel
theorem dX8_stepsTo_18 : decode cX8_stepsTo 18 = .ok (.aload_n 0, 1) := by decide +kernel
theorem dX8_stepsTo_19 : decode cX8_stepsTo 19 = .ok (.getfield 34, 3) := by decide +kernel
theorem dX8_stepsTo_22 : decode cX8_stepsTo 22 = .ok (.iload 4, 2) := by decide +kernel
theorem dX8_stepsTo_24 : decode cX8_stepsTo 24 = .ok (.iaload, 1) := by decide +kernel
theorem dX8_stepsTo_25 : decode cX8_stepsTo 25 = .ok (.istore 4, 2) := by decide +kernel
theorem dX8_stepsTo_27 : decode cX8_stepsTo 27 = .ok (.iinc 3 1, 3) := by decide +kernel
theorem dX8_stepsTo_30 : decode cX8_stepsTo 30 = .ok (.goto (-25), 3) := by decide +kernel
theorem dX8_stepsTo_33 : decode cX8_stepsTo 33 = .ok (.iload 4, 2) := by decide +kernel
theorem dX8_stepsTo_35 : decode cX8_stepsTo 35 = .ok (.iload_n 2, 1) := by decide +kernel
theorem dX8_stepsTo_36 : decode cX8_stepsTo 36 = .ok (.if_icmp .ne 7, 3) := by decide +kernel
theorem dX8_stepsTo_39 : decode cX8_stepsTo 39 = .ok (.iload_n 3, 1) := by decide +kernel
theorem dX8_stepsTo_40 : decode cX8_stepsTo 40 = .ok (.goto 5, 3) := by decide +kernel
