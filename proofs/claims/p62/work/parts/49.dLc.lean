theorem dL_sum_0 : decode cL_sum 0 = .ok (.ldc2_w 295, 3) := by decide +kernel
theorem dL_sum_3 : decode cL_sum 3 = .ok (.aload_n 0, 1) := by decide +kernel
theorem dL_sum_4 : decode cL_sum 4 = .ok (.invokevirtual 200, 3) := by decide +kernel
theorem dL_sum_7 : decode cL_sum 7 = .ok (.i2l, 1) := by decide +kernel
theorem dL_sum_8 : decode cL_sum 8 = .ok (.lmul, 1) := by decide +kernel
theorem dL_sum_9 : decode cL_sum 9 = .ok (.aload_n 0, 1) := by decide +kernel
theorem dL_sum_10 : decode cL_sum 10 = .ok (.invokevirtual 297, 3) := by decide +kernel
theorem dL_sum_13 : decode cL_sum 13 = .ok (.i2l, 1) := by decide +kernel
theorem dL_sum_14 : decode cL_sum 14 = .ok (.ladd, 1) := by decide +kernel
theorem dL_sum_15 : decode cL_sum 15 = .ok (.lstore_n 1, 1) := by decide +kernel
theorem dL_sum_16 : decode cL_sum 16 = .ok (.ldc2_w 295, 3) := by decide +kernel
theorem dL_sum_19 : decode cL_sum 19 = .ok (.lload_n 1, 1) := by decide +kernel
theorem dL_sum_20 : decode cL_sum 20 = .ok (.lmul, 1) := by decide +kernel
theorem dL_sum_21 : decode cL_sum 21 = .ok (.ldc2_w 300, 3) := by decide +kernel
theorem dL_sum_24 : decode cL_sum 24 = .ok (.aload_n 0, 1) := by decide +kernel
theorem dL_sum_25 : decode cL_sum 25 = .ok (.invokevirtual 206, 3) := by decide +kernel
theorem dL_sum_28 : decode cL_sum 28 = .ok (.lmul, 1) := by decide +kernel
theorem dL_sum_29 : decode cL_sum 29 = .ok (.ladd, 1) := by decide +kernel
theorem dL_sum_30 : decode cL_sum 30 = .ok (.aload_n 0, 1) := by decide +kernel
theorem dL_sum_31 : decode cL_sum 31 = .ok (.invokevirtual 210, 3) := by decide +kernel
theorem dL_sum_34 : decode cL_sum 34 = .ok (.ladd, 1) := by decide +kernel
theorem dL_sum_35 : decode cL_sum 35 = .ok (.lstore_n 1, 1) := by decide +kernel
theorem dL_sum_36 : decode cL_sum 36 = .ok (.ldc2_w 295, 3) := by decide +kernel
theorem dL_sum_39 : decode cL_sum 39 = .ok (.lload_n 1, 1) := by decide +kernel
theorem dL_sum_40 : decode cL_sum 40 = .ok (.lmul, 1) := by decide +kernel
theorem dL_sum_41 : decode cL_sum 41 = .ok (.aload_n 0, 1) := by decide +kernel
theorem dL_sum_42 : decode cL_sum 42 = .ok (.invokevirtual 302, 3) := by decide +kernel
theorem dL_sum_45 : decode cL_sum 45 = .ok (.i2l, 1) := by decide +kernel
theorem dL_sum_46 : decode cL_sum 46 = .ok (.ladd, 1) := by decide +kernel
theorem dL_sum_47 : decode cL_sum 47 = .ok (.lstore_n 1, 1) := by decide +kernel
theorem dL_sum_48 : decode cL_sum 48 = .ok (.iconst 0, 1) := by decide +kernel
theorem dL_sum_49 : decode cL_sum 49 = .ok (.istore_n 3, 1) := by decide +kernel
theorem dL_sum_50 : decode cL_sum 50 = .ok (.iload_n 3, 1) := by decide +kernel
theorem dL_sum_51 : decode cL_sum 51 = .ok (.aload_n 0, 1) := by decide +kernel
theorem dL_sum_52 : decode cL_sum 52 = .ok (.invokevirtual 230, 3) := by decide +kernel
theorem dL_sum_55 : decode cL_sum 55 = .ok (.if_icmp .ge 33, 3) := by decide +kernel
theorem dL_sum_58 : decode cL_sum 58 = .ok (.ldc2_w 295, 3) := by decide +kernel
theorem dL_sum_61 : decode cL_sum 61 = .ok (.lload_n 1, 1) := by decide +kernel
theorem dL_sum_62 : decode cL_sum 62 = .ok (.lmul, 1) := by decide +kernel
theorem dL_sum_63 : decode cL_sum 63 = .ok (.ldc2_w 295, 3) := by decide +kernel
theorem dL_sum_66 : decode cL_sum 66 = .ok (.aload_n 0, 1) := by decide +kernel
theorem dL_sum_67 : decode cL_sum 67 = .ok (.iload_n 3, 1) := by decide +kernel
theorem dL_sum_68 : decode cL_sum 68 = .ok (.invokestatic 305, 3) := by decide +kernel
theorem dL_sum_71 : decode cL_sum 71 = .ok (.i2l, 1) := by decide +kernel
theorem dL_sum_72 : decode cL_sum 72 = .ok (.lmul, 1) := by decide +kernel
theorem dL_sum_73 : decode cL_sum 73 = .ok (.ladd, 1) := by decide +kernel
theorem dL_sum_74 : decode cL_sum 74 = .ok (.aload_n 0, 1) := by decide +kernel
theorem dL_sum_75 : decode cL_sum 75 = .ok (.iload_n 3, 1) := by decide +kernel
theorem dL_sum_76 : decode cL_sum 76 = .ok (.invokestatic 307, 3) := by decide +kernel
theorem dL_sum_79 : decode cL_sum 79 = .ok (.i2l, 1) := by decide +kernel
theorem dL_sum_80 : decode cL_sum 80 = .ok (.ladd, 1) := by decide +kernel
theorem dL_sum_81 : decode cL_sum 81 = .ok (.lstore_n 1, 1) := by decide +kernel
theorem dL_sum_82 : decode cL_sum 82 = .ok (.iinc 3 1, 3) := by decide +kernel
theorem dL_sum_85 : decode cL_sum 85 = .ok (.goto (-35), 3) := by decide +kernel
theorem dL_sum_88 : decode cL_sum 88 = .ok (.iconst 0, 1) := by decide +kernel
theorem dL_sum_89 : decode cL_sum 89 = .ok (.istore_n 3, 1) := by decide +kernel
theorem dL_sum_90 : decode cL_sum 90 = .ok (.iload_n 3, 1) := by decide +kernel
theorem dL_sum_91 : decode cL_sum 91 = .ok (.aload_n 0, 1) := by decide +kernel
theorem dL_sum_92 : decode cL_sum 92 = .ok (.invokevirtual 233, 3) := by decide +kernel
theorem dL_sum_95 : decode cL_sum 95 = .ok (.if_icmp .ge 56, 3) := by decide +kernel
theorem dL_sum_98 : decode cL_sum 98 = .ok (.aload_n 0, 1) := by decide +kernel
theorem dL_sum_99 : decode cL_sum 99 = .ok (.iload_n 3, 1) := by decide +kernel
theorem dL_sum_100 : decode cL_sum 100 = .ok (.invokestatic 309, 3) := by decide +kernel
theorem dL_sum_103 : decode cL_sum 103 = .ok (.istore 4, 2) := by decide +kernel
theorem dL_sum_105 : decode cL_sum 105 = .ok (.ldc2_w 295, 3) := by decide +kernel
theorem dL_sum_108 : decode cL_sum 108 = .ok (.lload_n 1, 1) := by decide +kernel
theorem dL_sum_109 : decode cL_sum 109 = .ok (.lmul, 1) := by decide +kernel
theorem dL_sum_110 : decode cL_sum 110 = .ok (.iload 4, 2) := by decide +kernel
theorem dL_sum_112 : decode cL_sum 112 = .ok (.i2l, 1) := by decide +kernel
theorem dL_sum_113 : decode cL_sum 113 = .ok (.ladd, 1) := by decide +kernel
theorem dL_sum_114 : decode cL_sum 114 = .ok (.lstore_n 1, 1) := by decide +kernel
theorem dL_sum_115 : decode cL_sum 115 = .ok (.iconst 0, 1) := by decide +kernel
theorem dL_sum_116 : decode cL_sum 116 = .ok (.istore 5, 2) := by decide +kernel
theorem dL_sum_118 : decode cL_sum 118 = .ok (.iload 5, 2) := by decide +kernel
theorem dL_sum_120 : decode cL_sum 120 = .ok (.iload 4, 2) := by decide +kernel
theorem dL_sum_122 : decode cL_sum 122 = .ok (.if_icmp .ge 23, 3) := by decide +kernel
theorem dL_sum_125 : decode cL_sum 125 = .ok (.ldc2_w 295, 3) := by decide +kernel
theorem dL_sum_128 : decode cL_sum 128 = .ok (.lload_n 1, 1) := by decide +kernel
theorem dL_sum_129 : decode cL_sum 129 = .ok (.lmul, 1) := by decide +kernel
theorem dL_sum_130 : decode cL_sum 130 = .ok (.aload_n 0, 1) := by decide +kernel
theorem dL_sum_131 : decode cL_sum 131 = .ok (.iload 5, 2) := by decide +kernel
theorem dL_sum_133 : decode cL_sum 133 = .ok (.invokestatic 177, 3) := by decide +kernel
theorem dL_sum_136 : decode cL_sum 136 = .ok (.i2l, 1) := by decide +kernel
theorem dL_sum_137 : decode cL_sum 137 = .ok (.ladd, 1) := by decide +kernel
theorem dL_sum_138 : decode cL_sum 138 = .ok (.lstore_n 1, 1) := by decide +kernel
theorem dL_sum_139 : decode cL_sum 139 = .ok (.iinc 5 1, 3) := by decide +kernel
theorem dL_sum_142 : decode cL_sum 142 = .ok (.goto (-24), 3) := by decide +kernel
theorem dL_sum_145 : decode cL_sum 145 = .ok (.iinc 3 1, 3) := by decide +kernel
theorem dL_sum_148 : decode cL_sum 148 = .ok (.goto (-58), 3) := by decide +kernel
theorem dL_sum_151 : decode cL_sum 151 = .ok (.iconst 0, 1) := by decide +kernel
theorem dL_sum_152 : decode cL_sum 152 = .ok (.istore_n 3, 1) := by decide +kernel
theorem dL_sum_153 : decode cL_sum 153 = .ok (.iload_n 3, 1) := by decide +kernel
theorem dL_sum_154 : decode cL_sum 154 = .ok (.aload_n 0, 1) := by decide +kernel
theorem dL_sum_155 : decode cL_sum 155 = .ok (.invokevirtual 203, 3) := by decide +kernel
theorem dL_sum_158 : decode cL_sum 158 = .ok (.if_icmp .ge 33, 3) := by decide +kernel
theorem dL_sum_161 : decode cL_sum 161 = .ok (.ldc2_w 295, 3) := by decide +kernel
theorem dL_sum_164 : decode cL_sum 164 = .ok (.lload_n 1, 1) := by decide +kernel
theorem dL_sum_165 : decode cL_sum 165 = .ok (.lmul, 1) := by decide +kernel
theorem dL_sum_166 : decode cL_sum 166 = .ok (.ldc2_w 311, 3) := by decide +kernel
theorem dL_sum_169 : decode cL_sum 169 = .ok (.aload_n 0, 1) := by decide +kernel
theorem dL_sum_170 : decode cL_sum 170 = .ok (.iload_n 3, 1) := by decide +kernel
theorem dL_sum_171 : decode cL_sum 171 = .ok (.invokestatic 313, 3) := by decide +kernel
theorem dL_sum_174 : decode cL_sum 174 = .ok (.i2l, 1) := by decide +kernel
theorem dL_sum_175 : decode cL_sum 175 = .ok (.lmul, 1) := by decide +kernel
theorem dL_sum_176 : decode cL_sum 176 = .ok (.ladd, 1) := by decide +kernel
theorem dL_sum_177 : decode cL_sum 177 = .ok (.aload_n 0, 1) := by decide +kernel
theorem dL_sum_178 : decode cL_sum 178 = .ok (.iload_n 3, 1) := by decide +kernel
theorem dL_sum_179 : decode cL_sum 179 = .ok (.invokestatic 315, 3) := by decide +kernel
theorem dL_sum_182 : decode cL_sum 182 = .ok (.i2l, 1) := by decide +kernel
theorem dL_sum_183 : decode cL_sum 183 = .ok (.ladd, 1) := by decide +kernel
theorem dL_sum_184 : decode cL_sum 184 = .ok (.lstore_n 1, 1) := by decide +kernel
theorem dL_sum_185 : decode cL_sum 185 = .ok (.iinc 3 1, 3) := by decide +kernel
theorem dL_sum_188 : decode cL_sum 188 = .ok (.goto (-35), 3) := by decide +kernel
theorem dL_sum_191 : decode cL_sum 191 = .ok (.lload_n 1, 1) := by decide +kernel
theorem dL_sum_192 : decode cL_sum 192 = .ok (.lreturn, 1) := by decide +kernel
