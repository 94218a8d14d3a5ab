theorem dL_areFigures_0 : decode cL_areFigures 0 = .ok (.iconst 0, 1) := by decide +kernel
theorem dL_areFigures_1 : decode cL_areFigures 1 = .ok (.istore_n 1, 1) := by decide +kernel
theorem dL_areFigures_2 : decode cL_areFigures 2 = .ok (.iload_n 1, 1) := by decide +kernel
theorem dL_areFigures_3 : decode cL_areFigures 3 = .ok (.aload_n 0, 1) := by decide +kernel
theorem dL_areFigures_4 : decode cL_areFigures 4 = .ok (.invokevirtual 233, 3) := by decide +kernel
theorem dL_areFigures_7 : decode cL_areFigures 7 = .ok (.if_icmp .ge 166, 3) := by decide +kernel
theorem dL_areFigures_10 : decode cL_areFigures 10 = .ok (.iconst 0, 1) := by decide +kernel
theorem dL_areFigures_11 : decode cL_areFigures 11 = .ok (.istore_n 2, 1) := by decide +kernel
theorem dL_areFigures_12 : decode cL_areFigures 12 = .ok (.iconst 0, 1) := by decide +kernel
theorem dL_areFigures_13 : decode cL_areFigures 13 = .ok (.istore_n 3, 1) := by decide +kernel
theorem dL_areFigures_14 : decode cL_areFigures 14 = .ok (.iload_n 3, 1) := by decide +kernel
theorem dL_areFigures_15 : decode cL_areFigures 15 = .ok (.aload_n 0, 1) := by decide +kernel
theorem dL_areFigures_16 : decode cL_areFigures 16 = .ok (.iload_n 1, 1) := by decide +kernel
theorem dL_areFigures_17 : decode cL_areFigures 17 = .ok (.invokestatic 354, 3) := by decide +kernel
theorem dL_areFigures_20 : decode cL_areFigures 20 = .ok (.if_icmp .ge 110, 3) := by decide +kernel
theorem dL_areFigures_23 : decode cL_areFigures 23 = .ok (.iload_n 2, 1) := by decide +kernel
theorem dL_areFigures_24 : decode cL_areFigures 24 = .ok (.aload_n 0, 1) := by decide +kernel
theorem dL_areFigures_25 : decode cL_areFigures 25 = .ok (.iload_n 1, 1) := by decide +kernel
theorem dL_areFigures_26 : decode cL_areFigures 26 = .ok (.iload_n 3, 1) := by decide +kernel
theorem dL_areFigures_27 : decode cL_areFigures 27 = .ok (.invokestatic 356, 3) := by decide +kernel
theorem dL_areFigures_30 : decode cL_areFigures 30 = .ok (.invokestatic 358, 3) := by decide +kernel
theorem dL_areFigures_33 : decode cL_areFigures 33 = .ok (.istore_n 2, 1) := by decide +kernel
theorem dL_areFigures_34 : decode cL_areFigures 34 = .ok (.aload_n 0, 1) := by decide +kernel
theorem dL_areFigures_35 : decode cL_areFigures 35 = .ok (.iload_n 1, 1) := by decide +kernel
theorem dL_areFigures_36 : decode cL_areFigures 36 = .ok (.iload_n 3, 1) := by decide +kernel
theorem dL_areFigures_37 : decode cL_areFigures 37 = .ok (.invokestatic 356, 3) := by decide +kernel
theorem dL_areFigures_40 : decode cL_areFigures 40 = .ok (.ifCond .lt 60, 3) := by decide +kernel
theorem dL_areFigures_43 : decode cL_areFigures 43 = .ok (.aload_n 0, 1) := by decide +kernel
theorem dL_areFigures_44 : decode cL_areFigures 44 = .ok (.iload_n 1, 1) := by decide +kernel
theorem dL_areFigures_45 : decode cL_areFigures 45 = .ok (.iload_n 3, 1) := by decide +kernel
theorem dL_areFigures_46 : decode cL_areFigures 46 = .ok (.invokestatic 356, 3) := by decide +kernel
theorem dL_areFigures_49 : decode cL_areFigures 49 = .ok (.bipush 20, 2) := by decide +kernel
theorem dL_areFigures_51 : decode cL_areFigures 51 = .ok (.if_icmp .gt 49, 3) := by decide +kernel
theorem dL_areFigures_54 : decode cL_areFigures 54 = .ok (.aload_n 0, 1) := by decide +kernel
theorem dL_areFigures_55 : decode cL_areFigures 55 = .ok (.iload_n 1, 1) := by decide +kernel
theorem dL_areFigures_56 : decode cL_areFigures 56 = .ok (.iload_n 3, 1) := by decide +kernel
theorem dL_areFigures_57 : decode cL_areFigures 57 = .ok (.invokestatic 361, 3) := by decide +kernel
theorem dL_areFigures_60 : decode cL_areFigures 60 = .ok (.ifCond .lt 40, 3) := by decide +kernel
theorem dL_areFigures_63 : decode cL_areFigures 63 = .ok (.aload_n 0, 1) := by decide +kernel
theorem dL_areFigures_64 : decode cL_areFigures 64 = .ok (.iload_n 1, 1) := by decide +kernel
theorem dL_areFigures_65 : decode cL_areFigures 65 = .ok (.iload_n 3, 1) := by decide +kernel
theorem dL_areFigures_66 : decode cL_areFigures 66 = .ok (.invokestatic 361, 3) := by decide +kernel
theorem dL_areFigures_69 : decode cL_areFigures 69 = .ok (.aload_n 0, 1) := by decide +kernel
theorem dL_areFigures_70 : decode cL_areFigures 70 = .ok (.invokevirtual 230, 3) := by decide +kernel
theorem dL_areFigures_73 : decode cL_areFigures 73 = .ok (.if_icmp .ge 27, 3) := by decide +kernel
theorem dL_areFigures_76 : decode cL_areFigures 76 = .ok (.aload_n 0, 1) := by decide +kernel
theorem dL_areFigures_77 : decode cL_areFigures 77 = .ok (.iload_n 1, 1) := by decide +kernel
theorem dL_areFigures_78 : decode cL_areFigures 78 = .ok (.iload_n 3, 1) := by decide +kernel
theorem dL_areFigures_79 : decode cL_areFigures 79 = .ok (.invokestatic 363, 3) := by decide +kernel
theorem dL_areFigures_82 : decode cL_areFigures 82 = .ok (.ifCond .lt 18, 3) := by decide +kernel
theorem dL_areFigures_85 : decode cL_areFigures 85 = .ok (.aload_n 0, 1) := by decide +kernel
theorem dL_areFigures_86 : decode cL_areFigures 86 = .ok (.iload_n 1, 1) := by decide +kernel
theorem dL_areFigures_87 : decode cL_areFigures 87 = .ok (.iload_n 3, 1) := by decide +kernel
theorem dL_areFigures_88 : decode cL_areFigures 88 = .ok (.invokestatic 363, 3) := by decide +kernel
theorem dL_areFigures_91 : decode cL_areFigures 91 = .ok (.bipush 10, 2) := by decide +kernel
theorem dL_areFigures_93 : decode cL_areFigures 93 = .ok (.if_icmp .gt 7, 3) := by decide +kernel
theorem dL_areFigures_96 : decode cL_areFigures 96 = .ok (.iconst 1, 1) := by decide +kernel
theorem dL_areFigures_97 : decode cL_areFigures 97 = .ok (.goto 4, 3) := by decide +kernel
theorem dL_areFigures_100 : decode cL_areFigures 100 = .ok (.iconst 0, 1) := by decide +kernel
theorem dL_areFigures_101 : decode cL_areFigures 101 = .ok (.istore 4, 2) := by decide +kernel
theorem dL_areFigures_103 : decode cL_areFigures 103 = .ok (.iload 4, 2) := by decide +kernel
theorem dL_areFigures_105 : decode cL_areFigures 105 = .ok (.ifCond .eq 17, 3) := by decide +kernel
theorem dL_areFigures_108 : decode cL_areFigures 108 = .ok (.aload_n 0, 1) := by decide +kernel
theorem dL_areFigures_109 : decode cL_areFigures 109 = .ok (.aload_n 0, 1) := by decide +kernel
theorem dL_areFigures_110 : decode cL_areFigures 110 = .ok (.iload_n 1, 1) := by decide +kernel
theorem dL_areFigures_111 : decode cL_areFigures 111 = .ok (.iload_n 3, 1) := by decide +kernel
theorem dL_areFigures_112 : decode cL_areFigures 112 = .ok (.invokestatic 361, 3) := by decide +kernel
theorem dL_areFigures_115 : decode cL_areFigures 115 = .ok (.invokestatic 337, 3) := by decide +kernel
theorem dL_areFigures_118 : decode cL_areFigures 118 = .ok (.iconst 1, 1) := by decide +kernel
theorem dL_areFigures_119 : decode cL_areFigures 119 = .ok (.if_icmp .ge 5, 3) := by decide +kernel
theorem dL_areFigures_122 : decode cL_areFigures 122 = .ok (.iconst 0, 1) := by decide +kernel
theorem dL_areFigures_123 : decode cL_areFigures 123 = .ok (.ireturn, 1) := by decide +kernel
theorem dL_areFigures_124 : decode cL_areFigures 124 = .ok (.iinc 3 1, 3) := by decide +kernel
theorem dL_areFigures_127 : decode cL_areFigures 127 = .ok (.goto (-113), 3) := by decide +kernel
theorem dL_areFigures_130 : decode cL_areFigures 130 = .ok (.aload_n 0, 1) := by decide +kernel
theorem dL_areFigures_131 : decode cL_areFigures 131 = .ok (.iload_n 1, 1) := by decide +kernel
theorem dL_areFigures_132 : decode cL_areFigures 132 = .ok (.invokestatic 365, 3) := by decide +kernel
theorem dL_areFigures_135 : decode cL_areFigures 135 = .ok (.iload_n 2, 1) := by decide +kernel
theorem dL_areFigures_136 : decode cL_areFigures 136 = .ok (.if_icmp .ne 29, 3) := by decide +kernel
theorem dL_areFigures_139 : decode cL_areFigures 139 = .ok (.aload_n 0, 1) := by decide +kernel
theorem dL_areFigures_140 : decode cL_areFigures 140 = .ok (.iload_n 1, 1) := by decide +kernel
theorem dL_areFigures_141 : decode cL_areFigures 141 = .ok (.invokestatic 354, 3) := by decide +kernel
theorem dL_areFigures_144 : decode cL_areFigures 144 = .ok (.bipush 8, 2) := by decide +kernel
theorem dL_areFigures_146 : decode cL_areFigures 146 = .ok (.if_icmp .gt 19, 3) := by decide +kernel
theorem dL_areFigures_149 : decode cL_areFigures 149 = .ok (.aload_n 0, 1) := by decide +kernel
theorem dL_areFigures_150 : decode cL_areFigures 150 = .ok (.iload_n 1, 1) := by decide +kernel
theorem dL_areFigures_151 : decode cL_areFigures 151 = .ok (.aload_n 0, 1) := by decide +kernel
theorem dL_areFigures_152 : decode cL_areFigures 152 = .ok (.iload_n 1, 1) := by decide +kernel
theorem dL_areFigures_153 : decode cL_areFigures 153 = .ok (.invokestatic 354, 3) := by decide +kernel
theorem dL_areFigures_156 : decode cL_areFigures 156 = .ok (.invokestatic 361, 3) := by decide +kernel
theorem dL_areFigures_159 : decode cL_areFigures 159 = .ok (.sipush (-7700), 3) := by decide +kernel
theorem dL_areFigures_162 : decode cL_areFigures 162 = .ok (.if_icmp .eq 5, 3) := by decide +kernel
theorem dL_areFigures_165 : decode cL_areFigures 165 = .ok (.iconst 0, 1) := by decide +kernel
theorem dL_areFigures_166 : decode cL_areFigures 166 = .ok (.ireturn, 1) := by decide +kernel
theorem dL_areFigures_167 : decode cL_areFigures 167 = .ok (.iinc 1 1, 3) := by decide +kernel
theorem dL_areFigures_170 : decode cL_areFigures 170 = .ok (.goto (-168), 3) := by decide +kernel
theorem dL_areFigures_173 : decode cL_areFigures 173 = .ok (.aload_n 0, 1) := by decide +kernel
theorem dL_areFigures_174 : decode cL_areFigures 174 = .ok (.invokevirtual 203, 3) := by decide +kernel
theorem dL_areFigures_177 : decode cL_areFigures 177 = .ok (.ifCond .ne 7, 3) := by decide +kernel
theorem dL_areFigures_180 : decode cL_areFigures 180 = .ok (.iconst 0, 1) := by decide +kernel
theorem dL_areFigures_181 : decode cL_areFigures 181 = .ok (.goto 4, 3) := by decide +kernel
theorem dL_areFigures_184 : decode cL_areFigures 184 = .ok (.iconst 1, 1) := by decide +kernel
theorem dL_areFigures_185 : decode cL_areFigures 185 = .ok (.istore_n 1, 1) := by decide +kernel
theorem dL_areFigures_186 : decode cL_areFigures 186 = .ok (.iconst 0, 1) := by decide +kernel
theorem dL_areFigures_187 : decode cL_areFigures 187 = .ok (.istore_n 2, 1) := by decide +kernel
theorem dL_areFigures_188 : decode cL_areFigures 188 = .ok (.iload_n 2, 1) := by decide +kernel
theorem dL_areFigures_189 : decode cL_areFigures 189 = .ok (.aload_n 0, 1) := by decide +kernel
theorem dL_areFigures_190 : decode cL_areFigures 190 = .ok (.invokevirtual 203, 3) := by decide +kernel
theorem dL_areFigures_193 : decode cL_areFigures 193 = .ok (.if_icmp .ge 34, 3) := by decide +kernel
theorem dL_areFigures_196 : decode cL_areFigures 196 = .ok (.iload_n 1, 1) := by decide +kernel
theorem dL_areFigures_197 : decode cL_areFigures 197 = .ok (.aload_n 0, 1) := by decide +kernel
theorem dL_areFigures_198 : decode cL_areFigures 198 = .ok (.iload_n 2, 1) := by decide +kernel
theorem dL_areFigures_199 : decode cL_areFigures 199 = .ok (.invokestatic 313, 3) := by decide +kernel
theorem dL_areFigures_202 : decode cL_areFigures 202 = .ok (.aload_n 0, 1) := by decide +kernel
theorem dL_areFigures_203 : decode cL_areFigures 203 = .ok (.aload_n 0, 1) := by decide +kernel
theorem dL_areFigures_204 : decode cL_areFigures 204 = .ok (.iload_n 2, 1) := by decide +kernel
theorem dL_areFigures_205 : decode cL_areFigures 205 = .ok (.invokestatic 315, 3) := by decide +kernel
theorem dL_areFigures_208 : decode cL_areFigures 208 = .ok (.invokestatic 365, 3) := by decide +kernel
theorem dL_areFigures_211 : decode cL_areFigures 211 = .ok (.iadd, 1) := by decide +kernel
theorem dL_areFigures_212 : decode cL_areFigures 212 = .ok (.aload_n 0, 1) := by decide +kernel
theorem dL_areFigures_213 : decode cL_areFigures 213 = .ok (.invokevirtual 200, 3) := by decide +kernel
theorem dL_areFigures_216 : decode cL_areFigures 216 = .ok (.isub, 1) := by decide +kernel
theorem dL_areFigures_217 : decode cL_areFigures 217 = .ok (.invokestatic 358, 3) := by decide +kernel
theorem dL_areFigures_220 : decode cL_areFigures 220 = .ok (.istore_n 1, 1) := by decide +kernel
theorem dL_areFigures_221 : decode cL_areFigures 221 = .ok (.iinc 2 1, 3) := by decide +kernel
theorem dL_areFigures_224 : decode cL_areFigures 224 = .ok (.goto (-36), 3) := by decide +kernel
theorem dL_areFigures_227 : decode cL_areFigures 227 = .ok (.aload_n 0, 1) := by decide +kernel
theorem dL_areFigures_228 : decode cL_areFigures 228 = .ok (.invokevirtual 197, 3) := by decide +kernel
theorem dL_areFigures_231 : decode cL_areFigures 231 = .ok (.iload_n 1, 1) := by decide +kernel
theorem dL_areFigures_232 : decode cL_areFigures 232 = .ok (.if_icmp .ne 24, 3) := by decide +kernel
theorem dL_areFigures_235 : decode cL_areFigures 235 = .ok (.aload_n 0, 1) := by decide +kernel
theorem dL_areFigures_236 : decode cL_areFigures 236 = .ok (.invokevirtual 203, 3) := by decide +kernel
theorem dL_areFigures_239 : decode cL_areFigures 239 = .ok (.bipush 6, 2) := by decide +kernel
theorem dL_areFigures_241 : decode cL_areFigures 241 = .ok (.if_icmp .gt 15, 3) := by decide +kernel
theorem dL_areFigures_244 : decode cL_areFigures 244 = .ok (.aload_n 0, 1) := by decide +kernel
theorem dL_areFigures_245 : decode cL_areFigures 245 = .ok (.invokevirtual 233, 3) := by decide +kernel
theorem dL_areFigures_248 : decode cL_areFigures 248 = .ok (.iconst 5, 1) := by decide +kernel
theorem dL_areFigures_249 : decode cL_areFigures 249 = .ok (.if_icmp .gt 7, 3) := by decide +kernel
theorem dL_areFigures_252 : decode cL_areFigures 252 = .ok (.iconst 1, 1) := by decide +kernel
theorem dL_areFigures_253 : decode cL_areFigures 253 = .ok (.goto 4, 3) := by decide +kernel
theorem dL_areFigures_256 : decode cL_areFigures 256 = .ok (.iconst 0, 1) := by decide +kernel
theorem dL_areFigures_257 : decode cL_areFigures 257 = .ok (.ireturn, 1) := by decide +kernel
