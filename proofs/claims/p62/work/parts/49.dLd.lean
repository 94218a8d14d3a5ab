theorem dL_areJets_0 : decode cL_areJets 0 = .ok (.aload_n 0, 1) := by decide +kernel
theorem dL_areJets_1 : decode cL_areJets 1 = .ok (.invokevirtual 230, 3) := by decide +kernel
theorem dL_areJets_4 : decode cL_areJets 4 = .ok (.istore_n 2, 1) := by decide +kernel
theorem dL_areJets_5 : decode cL_areJets 5 = .ok (.iconst 0, 1) := by decide +kernel
theorem dL_areJets_6 : decode cL_areJets 6 = .ok (.istore_n 3, 1) := by decide +kernel
theorem dL_areJets_7 : decode cL_areJets 7 = .ok (.iconst 0, 1) := by decide +kernel
theorem dL_areJets_8 : decode cL_areJets 8 = .ok (.istore 4, 2) := by decide +kernel
theorem dL_areJets_10 : decode cL_areJets 10 = .ok (.aload_n 0, 1) := by decide +kernel
theorem dL_areJets_11 : decode cL_areJets 11 = .ok (.invokevirtual 192, 3) := by decide +kernel
theorem dL_areJets_14 : decode cL_areJets 14 = .ok (.istore 5, 2) := by decide +kernel
theorem dL_areJets_16 : decode cL_areJets 16 = .ok (.aload_n 0, 1) := by decide +kernel
theorem dL_areJets_17 : decode cL_areJets 17 = .ok (.invokevirtual 317, 3) := by decide +kernel
theorem dL_areJets_20 : decode cL_areJets 20 = .ok (.istore 6, 2) := by decide +kernel
theorem dL_areJets_22 : decode cL_areJets 22 = .ok (.iconst 0, 1) := by decide +kernel
theorem dL_areJets_23 : decode cL_areJets 23 = .ok (.istore 7, 2) := by decide +kernel
theorem dL_areJets_25 : decode cL_areJets 25 = .ok (.iload 7, 2) := by decide +kernel
theorem dL_areJets_27 : decode cL_areJets 27 = .ok (.iload_n 2, 1) := by decide +kernel
theorem dL_areJets_28 : decode cL_areJets 28 = .ok (.if_icmp .ge 289, 3) := by decide +kernel
theorem dL_areJets_31 : decode cL_areJets 31 = .ok (.aload_n 0, 1) := by decide +kernel
theorem dL_areJets_32 : decode cL_areJets 32 = .ok (.iload 7, 2) := by decide +kernel
theorem dL_areJets_34 : decode cL_areJets 34 = .ok (.invokestatic 307, 3) := by decide +kernel
theorem dL_areJets_37 : decode cL_areJets 37 = .ok (.istore 8, 2) := by decide +kernel
theorem dL_areJets_39 : decode cL_areJets 39 = .ok (.aload_n 0, 1) := by decide +kernel
theorem dL_areJets_40 : decode cL_areJets 40 = .ok (.iload 7, 2) := by decide +kernel
theorem dL_areJets_42 : decode cL_areJets 42 = .ok (.invokestatic 320, 3) := by decide +kernel
theorem dL_areJets_45 : decode cL_areJets 45 = .ok (.istore 9, 2) := by decide +kernel
theorem dL_areJets_47 : decode cL_areJets 47 = .ok (.iload_n 3, 1) := by decide +kernel
theorem dL_areJets_48 : decode cL_areJets 48 = .ok (.iload 8, 2) := by decide +kernel
theorem dL_areJets_50 : decode cL_areJets 50 = .ok (.iadd, 1) := by decide +kernel
theorem dL_areJets_51 : decode cL_areJets 51 = .ok (.istore_n 3, 1) := by decide +kernel
theorem dL_areJets_52 : decode cL_areJets 52 = .ok (.iload 4, 2) := by decide +kernel
theorem dL_areJets_54 : decode cL_areJets 54 = .ok (.aload_n 0, 1) := by decide +kernel
theorem dL_areJets_55 : decode cL_areJets 55 = .ok (.iload 7, 2) := by decide +kernel
theorem dL_areJets_57 : decode cL_areJets 57 = .ok (.invokestatic 322, 3) := by decide +kernel
theorem dL_areJets_60 : decode cL_areJets 60 = .ok (.iadd, 1) := by decide +kernel
theorem dL_areJets_61 : decode cL_areJets 61 = .ok (.istore 4, 2) := by decide +kernel
theorem dL_areJets_63 : decode cL_areJets 63 = .ok (.aload_n 0, 1) := by decide +kernel
theorem dL_areJets_64 : decode cL_areJets 64 = .ok (.iload 7, 2) := by decide +kernel
theorem dL_areJets_66 : decode cL_areJets 66 = .ok (.invokestatic 324, 3) := by decide +kernel
theorem dL_areJets_69 : decode cL_areJets 69 = .ok (.aload_n 0, 1) := by decide +kernel
theorem dL_areJets_70 : decode cL_areJets 70 = .ok (.iload 7, 2) := by decide +kernel
theorem dL_areJets_72 : decode cL_areJets 72 = .ok (.invokestatic 305, 3) := by decide +kernel
theorem dL_areJets_75 : decode cL_areJets 75 = .ok (.isub, 1) := by decide +kernel
theorem dL_areJets_76 : decode cL_areJets 76 = .ok (.istore 10, 2) := by decide +kernel
theorem dL_areJets_78 : decode cL_areJets 78 = .ok (.iload 5, 2) := by decide +kernel
theorem dL_areJets_80 : decode cL_areJets 80 = .ok (.ifCond .ne 16, 3) := by decide +kernel
theorem dL_areJets_83 : decode cL_areJets 83 = .ok (.iload 9, 2) := by decide +kernel
theorem dL_areJets_85 : decode cL_areJets 85 = .ok (.ifCond .ne 7, 3) := by decide +kernel
theorem dL_areJets_88 : decode cL_areJets 88 = .ok (.iconst 1, 1) := by decide +kernel
theorem dL_areJets_89 : decode cL_areJets 89 = .ok (.goto 28, 3) := by decide +kernel
theorem dL_areJets_92 : decode cL_areJets 92 = .ok (.iconst 0, 1) := by decide +kernel
theorem dL_areJets_93 : decode cL_areJets 93 = .ok (.goto 24, 3) := by decide +kernel
theorem dL_areJets_96 : decode cL_areJets 96 = .ok (.iload 9, 2) := by decide +kernel
theorem dL_areJets_98 : decode cL_areJets 98 = .ok (.bipush 10, 2) := by decide +kernel
theorem dL_areJets_100 : decode cL_areJets 100 = .ok (.iload 8, 2) := by decide +kernel
theorem dL_areJets_102 : decode cL_areJets 102 = .ok (.imul, 1) := by decide +kernel
theorem dL_areJets_103 : decode cL_areJets 103 = .ok (.iload 6, 2) := by decide +kernel
theorem dL_areJets_105 : decode cL_areJets 105 = .ok (.imul, 1) := by decide +kernel
theorem dL_areJets_106 : decode cL_areJets 106 = .ok (.iload 5, 2) := by decide +kernel
theorem dL_areJets_108 : decode cL_areJets 108 = .ok (.idiv, 1) := by decide +kernel
theorem dL_areJets_109 : decode cL_areJets 109 = .ok (.if_icmp .ne 7, 3) := by decide +kernel
theorem dL_areJets_112 : decode cL_areJets 112 = .ok (.iconst 1, 1) := by decide +kernel
theorem dL_areJets_113 : decode cL_areJets 113 = .ok (.goto 4, 3) := by decide +kernel
theorem dL_areJets_116 : decode cL_areJets 116 = .ok (.iconst 0, 1) := by decide +kernel
theorem dL_areJets_117 : decode cL_areJets 117 = .ok (.istore 11, 2) := by decide +kernel
theorem dL_areJets_119 : decode cL_areJets 119 = .ok (.iload 10, 2) := by decide +kernel
theorem dL_areJets_121 : decode cL_areJets 121 = .ok (.iload 9, 2) := by decide +kernel
theorem dL_areJets_123 : decode cL_areJets 123 = .ok (.aload_n 0, 1) := by decide +kernel
theorem dL_areJets_124 : decode cL_areJets 124 = .ok (.invokevirtual 302, 3) := by decide +kernel
theorem dL_areJets_127 : decode cL_areJets 127 = .ok (.imul, 1) := by decide +kernel
theorem dL_areJets_128 : decode cL_areJets 128 = .ok (.bipush 20, 2) := by decide +kernel
theorem dL_areJets_130 : decode cL_areJets 130 = .ok (.idiv, 1) := by decide +kernel
theorem dL_areJets_131 : decode cL_areJets 131 = .ok (.if_icmp .ne 41, 3) := by decide +kernel
theorem dL_areJets_134 : decode cL_areJets 134 = .ok (.aload_n 0, 1) := by decide +kernel
theorem dL_areJets_135 : decode cL_areJets 135 = .ok (.iload 7, 2) := by decide +kernel
theorem dL_areJets_137 : decode cL_areJets 137 = .ok (.invokestatic 322, 3) := by decide +kernel
theorem dL_areJets_140 : decode cL_areJets 140 = .ok (.aload_n 0, 1) := by decide +kernel
theorem dL_areJets_141 : decode cL_areJets 141 = .ok (.iload 7, 2) := by decide +kernel
theorem dL_areJets_143 : decode cL_areJets 143 = .ok (.invokestatic 324, 3) := by decide +kernel
theorem dL_areJets_146 : decode cL_areJets 146 = .ok (.ifCond .lt 14, 3) := by decide +kernel
theorem dL_areJets_149 : decode cL_areJets 149 = .ok (.aload_n 0, 1) := by decide +kernel
theorem dL_areJets_150 : decode cL_areJets 150 = .ok (.iload 7, 2) := by decide +kernel
theorem dL_areJets_152 : decode cL_areJets 152 = .ok (.invokestatic 324, 3) := by decide +kernel
theorem dL_areJets_155 : decode cL_areJets 155 = .ok (.bipush 99, 2) := by decide +kernel
theorem dL_areJets_157 : decode cL_areJets 157 = .ok (.if_icmp .le 7, 3) := by decide +kernel
theorem dL_areJets_160 : decode cL_areJets 160 = .ok (.iconst 1, 1) := by decide +kernel
theorem dL_areJets_161 : decode cL_areJets 161 = .ok (.goto 4, 3) := by decide +kernel
theorem dL_areJets_164 : decode cL_areJets 164 = .ok (.iconst 0, 1) := by decide +kernel
theorem dL_areJets_165 : decode cL_areJets 165 = .ok (.if_icmp .ne 7, 3) := by decide +kernel
theorem dL_areJets_168 : decode cL_areJets 168 = .ok (.iconst 1, 1) := by decide +kernel
theorem dL_areJets_169 : decode cL_areJets 169 = .ok (.goto 4, 3) := by decide +kernel
theorem dL_areJets_172 : decode cL_areJets 172 = .ok (.iconst 0, 1) := by decide +kernel
theorem dL_areJets_173 : decode cL_areJets 173 = .ok (.istore 12, 2) := by decide +kernel
theorem dL_areJets_175 : decode cL_areJets 175 = .ok (.aload_n 0, 1) := by decide +kernel
theorem dL_areJets_176 : decode cL_areJets 176 = .ok (.iload 7, 2) := by decide +kernel
theorem dL_areJets_178 : decode cL_areJets 178 = .ok (.invokestatic 326, 3) := by decide +kernel
theorem dL_areJets_181 : decode cL_areJets 181 = .ok (.istore 13, 2) := by decide +kernel
theorem dL_areJets_183 : decode cL_areJets 183 = .ok (.iload 7, 2) := by decide +kernel
theorem dL_areJets_185 : decode cL_areJets 185 = .ok (.ifCond .eq 24, 3) := by decide +kernel
theorem dL_areJets_188 : decode cL_areJets 188 = .ok (.aload_n 0, 1) := by decide +kernel
theorem dL_areJets_189 : decode cL_areJets 189 = .ok (.aload_n 0, 1) := by decide +kernel
theorem dL_areJets_190 : decode cL_areJets 190 = .ok (.iload 7, 2) := by decide +kernel
theorem dL_areJets_192 : decode cL_areJets 192 = .ok (.iconst 1, 1) := by decide +kernel
theorem dL_areJets_193 : decode cL_areJets 193 = .ok (.isub, 1) := by decide +kernel
theorem dL_areJets_194 : decode cL_areJets 194 = .ok (.invokestatic 326, 3) := by decide +kernel
theorem dL_areJets_197 : decode cL_areJets 197 = .ok (.invokestatic 305, 3) := by decide +kernel
theorem dL_areJets_200 : decode cL_areJets 200 = .ok (.aload_n 0, 1) := by decide +kernel
theorem dL_areJets_201 : decode cL_areJets 201 = .ok (.iload 13, 2) := by decide +kernel
theorem dL_areJets_203 : decode cL_areJets 203 = .ok (.invokestatic 305, 3) := by decide +kernel
theorem dL_areJets_206 : decode cL_areJets 206 = .ok (.if_icmp .ge 7, 3) := by decide +kernel
theorem dL_areJets_209 : decode cL_areJets 209 = .ok (.iconst 1, 1) := by decide +kernel
theorem dL_areJets_210 : decode cL_areJets 210 = .ok (.goto 4, 3) := by decide +kernel
theorem dL_areJets_213 : decode cL_areJets 213 = .ok (.iconst 0, 1) := by decide +kernel
theorem dL_areJets_214 : decode cL_areJets 214 = .ok (.istore 14, 2) := by decide +kernel
theorem dL_areJets_216 : decode cL_areJets 216 = .ok (.aload_n 0, 1) := by decide +kernel
theorem dL_areJets_217 : decode cL_areJets 217 = .ok (.aload_n 0, 1) := by decide +kernel
theorem dL_areJets_218 : decode cL_areJets 218 = .ok (.invokestatic 328, 3) := by decide +kernel
theorem dL_areJets_221 : decode cL_areJets 221 = .ok (.invokestatic 320, 3) := by decide +kernel
theorem dL_areJets_224 : decode cL_areJets 224 = .ok (.iload 9, 2) := by decide +kernel
theorem dL_areJets_226 : decode cL_areJets 226 = .ok (.if_icmp .lt 35, 3) := by decide +kernel
theorem dL_areJets_229 : decode cL_areJets 229 = .ok (.aload_n 0, 1) := by decide +kernel
theorem dL_areJets_230 : decode cL_areJets 230 = .ok (.aload_n 0, 1) := by decide +kernel
theorem dL_areJets_231 : decode cL_areJets 231 = .ok (.iload_n 1, 1) := by decide +kernel
theorem dL_areJets_232 : decode cL_areJets 232 = .ok (.invokestatic 330, 3) := by decide +kernel
theorem dL_areJets_235 : decode cL_areJets 235 = .ok (.invokestatic 324, 3) := by decide +kernel
theorem dL_areJets_238 : decode cL_areJets 238 = .ok (.iload_n 1, 1) := by decide +kernel
theorem dL_areJets_239 : decode cL_areJets 239 = .ok (.isub, 1) := by decide +kernel
theorem dL_areJets_240 : decode cL_areJets 240 = .ok (.invokestatic 332, 3) := by decide +kernel
theorem dL_areJets_243 : decode cL_areJets 243 = .ok (.aload_n 0, 1) := by decide +kernel
theorem dL_areJets_244 : decode cL_areJets 244 = .ok (.iload 7, 2) := by decide +kernel
theorem dL_areJets_246 : decode cL_areJets 246 = .ok (.invokestatic 324, 3) := by decide +kernel
theorem dL_areJets_249 : decode cL_areJets 249 = .ok (.iload_n 1, 1) := by decide +kernel
theorem dL_areJets_250 : decode cL_areJets 250 = .ok (.isub, 1) := by decide +kernel
theorem dL_areJets_251 : decode cL_areJets 251 = .ok (.invokestatic 332, 3) := by decide +kernel
theorem dL_areJets_254 : decode cL_areJets 254 = .ok (.if_icmp .gt 7, 3) := by decide +kernel
theorem dL_areJets_257 : decode cL_areJets 257 = .ok (.iconst 1, 1) := by decide +kernel
theorem dL_areJets_258 : decode cL_areJets 258 = .ok (.goto 4, 3) := by decide +kernel
theorem dL_areJets_261 : decode cL_areJets 261 = .ok (.iconst 0, 1) := by decide +kernel
theorem dL_areJets_262 : decode cL_areJets 262 = .ok (.istore 15, 2) := by decide +kernel
theorem dL_areJets_264 : decode cL_areJets 264 = .ok (.iload 11, 2) := by decide +kernel
theorem dL_areJets_266 : decode cL_areJets 266 = .ok (.ifCond .eq 43, 3) := by decide +kernel
theorem dL_areJets_269 : decode cL_areJets 269 = .ok (.iload 12, 2) := by decide +kernel
theorem dL_areJets_271 : decode cL_areJets 271 = .ok (.ifCond .eq 38, 3) := by decide +kernel
theorem dL_areJets_274 : decode cL_areJets 274 = .ok (.iload 14, 2) := by decide +kernel
theorem dL_areJets_276 : decode cL_areJets 276 = .ok (.ifCond .eq 33, 3) := by decide +kernel
theorem dL_areJets_279 : decode cL_areJets 279 = .ok (.iload 15, 2) := by decide +kernel
theorem dL_areJets_281 : decode cL_areJets 281 = .ok (.ifCond .eq 28, 3) := by decide +kernel
theorem dL_areJets_284 : decode cL_areJets 284 = .ok (.iload 8, 2) := by decide +kernel
theorem dL_areJets_286 : decode cL_areJets 286 = .ok (.ifCond .lt 23, 3) := by decide +kernel
theorem dL_areJets_289 : decode cL_areJets 289 = .ok (.iload 8, 2) := by decide +kernel
theorem dL_areJets_291 : decode cL_areJets 291 = .ok (.bipush 10, 2) := by decide +kernel
theorem dL_areJets_293 : decode cL_areJets 293 = .ok (.if_icmp .gt 16, 3) := by decide +kernel
theorem dL_areJets_296 : decode cL_areJets 296 = .ok (.aload_n 0, 1) := by decide +kernel
theorem dL_areJets_297 : decode cL_areJets 297 = .ok (.iload 7, 2) := by decide +kernel
theorem dL_areJets_299 : decode cL_areJets 299 = .ok (.invokestatic 337, 3) := by decide +kernel
theorem dL_areJets_302 : decode cL_areJets 302 = .ok (.aload_n 0, 1) := by decide +kernel
theorem dL_areJets_303 : decode cL_areJets 303 = .ok (.invokevirtual 233, 3) := by decide +kernel
theorem dL_areJets_306 : decode cL_areJets 306 = .ok (.if_icmp .le 5, 3) := by decide +kernel
theorem dL_areJets_309 : decode cL_areJets 309 = .ok (.iconst 0, 1) := by decide +kernel
theorem dL_areJets_310 : decode cL_areJets 310 = .ok (.ireturn, 1) := by decide +kernel
theorem dL_areJets_311 : decode cL_areJets 311 = .ok (.iinc 7 1, 3) := by decide +kernel
theorem dL_areJets_314 : decode cL_areJets 314 = .ok (.goto (-289), 3) := by decide +kernel
theorem dL_areJets_317 : decode cL_areJets 317 = .ok (.iconst 0, 1) := by decide +kernel
theorem dL_areJets_318 : decode cL_areJets 318 = .ok (.istore 7, 2) := by decide +kernel
theorem dL_areJets_320 : decode cL_areJets 320 = .ok (.iconst 0, 1) := by decide +kernel
theorem dL_areJets_321 : decode cL_areJets 321 = .ok (.istore 8, 2) := by decide +kernel
theorem dL_areJets_323 : decode cL_areJets 323 = .ok (.iload 8, 2) := by decide +kernel
theorem dL_areJets_325 : decode cL_areJets 325 = .ok (.iload_n 2, 1) := by decide +kernel
theorem dL_areJets_326 : decode cL_areJets 326 = .ok (.if_icmp .ge 93, 3) := by decide +kernel
theorem dL_areJets_329 : decode cL_areJets 329 = .ok (.iconst 0, 1) := by decide +kernel
theorem dL_areJets_330 : decode cL_areJets 330 = .ok (.istore 9, 2) := by decide +kernel
theorem dL_areJets_332 : decode cL_areJets 332 = .ok (.iload 9, 2) := by decide +kernel
theorem dL_areJets_334 : decode cL_areJets 334 = .ok (.iload 8, 2) := by decide +kernel
theorem dL_areJets_336 : decode cL_areJets 336 = .ok (.if_icmp .ge 77, 3) := by decide +kernel
theorem dL_areJets_339 : decode cL_areJets 339 = .ok (.iload 7, 2) := by decide +kernel
theorem dL_areJets_341 : decode cL_areJets 341 = .ok (.aload_n 0, 1) := by decide +kernel
theorem dL_areJets_342 : decode cL_areJets 342 = .ok (.iload 8, 2) := by decide +kernel
theorem dL_areJets_344 : decode cL_areJets 344 = .ok (.invokestatic 305, 3) := by decide +kernel
theorem dL_areJets_347 : decode cL_areJets 347 = .ok (.aload_n 0, 1) := by decide +kernel
theorem dL_areJets_348 : decode cL_areJets 348 = .ok (.iload 9, 2) := by decide +kernel
theorem dL_areJets_350 : decode cL_areJets 350 = .ok (.invokestatic 305, 3) := by decide +kernel
theorem dL_areJets_353 : decode cL_areJets 353 = .ok (.if_icmp .ge 7, 3) := by decide +kernel
theorem dL_areJets_356 : decode cL_areJets 356 = .ok (.iconst 1, 1) := by decide +kernel
theorem dL_areJets_357 : decode cL_areJets 357 = .ok (.goto 4, 3) := by decide +kernel
theorem dL_areJets_360 : decode cL_areJets 360 = .ok (.iconst 0, 1) := by decide +kernel
theorem dL_areJets_361 : decode cL_areJets 361 = .ok (.aload_n 0, 1) := by decide +kernel
theorem dL_areJets_362 : decode cL_areJets 362 = .ok (.iload 8, 2) := by decide +kernel
theorem dL_areJets_364 : decode cL_areJets 364 = .ok (.invokestatic 324, 3) := by decide +kernel
theorem dL_areJets_367 : decode cL_areJets 367 = .ok (.aload_n 0, 1) := by decide +kernel
theorem dL_areJets_368 : decode cL_areJets 368 = .ok (.iload 9, 2) := by decide +kernel
theorem dL_areJets_370 : decode cL_areJets 370 = .ok (.invokestatic 324, 3) := by decide +kernel
theorem dL_areJets_373 : decode cL_areJets 373 = .ok (.if_icmp .le 7, 3) := by decide +kernel
theorem dL_areJets_376 : decode cL_areJets 376 = .ok (.iconst 1, 1) := by decide +kernel
theorem dL_areJets_377 : decode cL_areJets 377 = .ok (.goto 4, 3) := by decide +kernel
theorem dL_areJets_380 : decode cL_areJets 380 = .ok (.iconst 0, 1) := by decide +kernel
theorem dL_areJets_381 : decode cL_areJets 381 = .ok (.if_icmp .ne 22, 3) := by decide +kernel
theorem dL_areJets_384 : decode cL_areJets 384 = .ok (.aload_n 0, 1) := by decide +kernel
theorem dL_areJets_385 : decode cL_areJets 385 = .ok (.iload 8, 2) := by decide +kernel
theorem dL_areJets_387 : decode cL_areJets 387 = .ok (.invokestatic 324, 3) := by decide +kernel
theorem dL_areJets_390 : decode cL_areJets 390 = .ok (.aload_n 0, 1) := by decide +kernel
theorem dL_areJets_391 : decode cL_areJets 391 = .ok (.iload 9, 2) := by decide +kernel
theorem dL_areJets_393 : decode cL_areJets 393 = .ok (.invokestatic 324, 3) := by decide +kernel
theorem dL_areJets_396 : decode cL_areJets 396 = .ok (.if_icmp .eq 7, 3) := by decide +kernel
theorem dL_areJets_399 : decode cL_areJets 399 = .ok (.iconst 1, 1) := by decide +kernel
theorem dL_areJets_400 : decode cL_areJets 400 = .ok (.goto 4, 3) := by decide +kernel
theorem dL_areJets_403 : decode cL_areJets 403 = .ok (.iconst 0, 1) := by decide +kernel
theorem dL_areJets_404 : decode cL_areJets 404 = .ok (.iadd, 1) := by decide +kernel
theorem dL_areJets_405 : decode cL_areJets 405 = .ok (.istore 7, 2) := by decide +kernel
theorem dL_areJets_407 : decode cL_areJets 407 = .ok (.iinc 9 1, 3) := by decide +kernel
theorem dL_areJets_410 : decode cL_areJets 410 = .ok (.goto (-78), 3) := by decide +kernel
theorem dL_areJets_413 : decode cL_areJets 413 = .ok (.iinc 8 1, 3) := by decide +kernel
theorem dL_areJets_416 : decode cL_areJets 416 = .ok (.goto (-93), 3) := by decide +kernel
theorem dL_areJets_419 : decode cL_areJets 419 = .ok (.iload_n 3, 1) := by decide +kernel
theorem dL_areJets_420 : decode cL_areJets 420 = .ok (.iload 5, 2) := by decide +kernel
theorem dL_areJets_422 : decode cL_areJets 422 = .ok (.if_icmp .ne 112, 3) := by decide +kernel
theorem dL_areJets_425 : decode cL_areJets 425 = .ok (.aload_n 0, 1) := by decide +kernel
theorem dL_areJets_426 : decode cL_areJets 426 = .ok (.invokevirtual 219, 3) := by decide +kernel
theorem dL_areJets_429 : decode cL_areJets 429 = .ok (.iload 4, 2) := by decide +kernel
theorem dL_areJets_431 : decode cL_areJets 431 = .ok (.if_icmp .ne 103, 3) := by decide +kernel
theorem dL_areJets_434 : decode cL_areJets 434 = .ok (.iload 6, 2) := by decide +kernel
theorem dL_areJets_436 : decode cL_areJets 436 = .ok (.iload 5, 2) := by decide +kernel
theorem dL_areJets_438 : decode cL_areJets 438 = .ok (.aload_n 0, 1) := by decide +kernel
theorem dL_areJets_439 : decode cL_areJets 439 = .ok (.invokevirtual 297, 3) := by decide +kernel
theorem dL_areJets_442 : decode cL_areJets 442 = .ok (.invokestatic 339, 3) := by decide +kernel
theorem dL_areJets_445 : decode cL_areJets 445 = .ok (.if_icmp .ne 89, 3) := by decide +kernel
theorem dL_areJets_448 : decode cL_areJets 448 = .ok (.aload_n 0, 1) := by decide +kernel
theorem dL_areJets_449 : decode cL_areJets 449 = .ok (.invokevirtual 342, 3) := by decide +kernel
theorem dL_areJets_452 : decode cL_areJets 452 = .ok (.iload 7, 2) := by decide +kernel
theorem dL_areJets_454 : decode cL_areJets 454 = .ok (.if_icmp .ne 80, 3) := by decide +kernel
theorem dL_areJets_457 : decode cL_areJets 457 = .ok (.aload_n 0, 1) := by decide +kernel
theorem dL_areJets_458 : decode cL_areJets 458 = .ok (.invokevirtual 345, 3) := by decide +kernel
theorem dL_areJets_461 : decode cL_areJets 461 = .ok (.iload 7, 2) := by decide +kernel
theorem dL_areJets_463 : decode cL_areJets 463 = .ok (.if_icmp .ne 71, 3) := by decide +kernel
theorem dL_areJets_466 : decode cL_areJets 466 = .ok (.iload_n 2, 1) := by decide +kernel
theorem dL_areJets_467 : decode cL_areJets 467 = .ok (.ifCond .ne 17, 3) := by decide +kernel
theorem dL_areJets_470 : decode cL_areJets 470 = .ok (.aload_n 0, 1) := by decide +kernel
theorem dL_areJets_471 : decode cL_areJets 471 = .ok (.invokestatic 348, 3) := by decide +kernel
theorem dL_areJets_474 : decode cL_areJets 474 = .ok (.ldc2_w 130, 3) := by decide +kernel
theorem dL_areJets_477 : decode cL_areJets 477 = .ok (.dcmp .l, 1) := by decide +kernel
theorem dL_areJets_478 : decode cL_areJets 478 = .ok (.ifCond .ne 56, 3) := by decide +kernel
theorem dL_areJets_481 : decode cL_areJets 481 = .ok (.goto 16, 3) := by decide +kernel
theorem dL_areJets_484 : decode cL_areJets 484 = .ok (.aload_n 0, 1) := by decide +kernel
theorem dL_areJets_485 : decode cL_areJets 485 = .ok (.invokestatic 348, 3) := by decide +kernel
theorem dL_areJets_488 : decode cL_areJets 488 = .ok (.iload_n 3, 1) := by decide +kernel
theorem dL_areJets_489 : decode cL_areJets 489 = .ok (.i2d, 1) := by decide +kernel
theorem dL_areJets_490 : decode cL_areJets 490 = .ok (.iload_n 2, 1) := by decide +kernel
theorem dL_areJets_491 : decode cL_areJets 491 = .ok (.i2d, 1) := by decide +kernel
theorem dL_areJets_492 : decode cL_areJets 492 = .ok (.ddiv, 1) := by decide +kernel
theorem dL_areJets_493 : decode cL_areJets 493 = .ok (.dcmp .l, 1) := by decide +kernel
theorem dL_areJets_494 : decode cL_areJets 494 = .ok (.ifCond .ne 40, 3) := by decide +kernel
theorem dL_areJets_497 : decode cL_areJets 497 = .ok (.iload 5, 2) := by decide +kernel
theorem dL_areJets_499 : decode cL_areJets 499 = .ok (.ifCond .ne 16, 3) := by decide +kernel
theorem dL_areJets_502 : decode cL_areJets 502 = .ok (.aload_n 0, 1) := by decide +kernel
theorem dL_areJets_503 : decode cL_areJets 503 = .ok (.invokestatic 351, 3) := by decide +kernel
theorem dL_areJets_506 : decode cL_areJets 506 = .ok (.ldc 136, 2) := by decide +kernel
theorem dL_areJets_508 : decode cL_areJets 508 = .ok (.fcmp .l, 1) := by decide +kernel
theorem dL_areJets_509 : decode cL_areJets 509 = .ok (.ifCond .ne 25, 3) := by decide +kernel
theorem dL_areJets_512 : decode cL_areJets 512 = .ok (.goto 18, 3) := by decide +kernel
theorem dL_areJets_515 : decode cL_areJets 515 = .ok (.aload_n 0, 1) := by decide +kernel
theorem dL_areJets_516 : decode cL_areJets 516 = .ok (.invokestatic 351, 3) := by decide +kernel
theorem dL_areJets_519 : decode cL_areJets 519 = .ok (.iload 6, 2) := by decide +kernel
theorem dL_areJets_521 : decode cL_areJets 521 = .ok (.i2f, 1) := by decide +kernel
theorem dL_areJets_522 : decode cL_areJets 522 = .ok (.iload 5, 2) := by decide +kernel
theorem dL_areJets_524 : decode cL_areJets 524 = .ok (.i2f, 1) := by decide +kernel
theorem dL_areJets_525 : decode cL_areJets 525 = .ok (.fdiv, 1) := by decide +kernel
theorem dL_areJets_526 : decode cL_areJets 526 = .ok (.fcmp .l, 1) := by decide +kernel
theorem dL_areJets_527 : decode cL_areJets 527 = .ok (.ifCond .ne 7, 3) := by decide +kernel
theorem dL_areJets_530 : decode cL_areJets 530 = .ok (.iconst 1, 1) := by decide +kernel
theorem dL_areJets_531 : decode cL_areJets 531 = .ok (.goto 4, 3) := by decide +kernel
theorem dL_areJets_534 : decode cL_areJets 534 = .ok (.iconst 0, 1) := by decide +kernel
theorem dL_areJets_535 : decode cL_areJets 535 = .ok (.ireturn, 1) := by decide +kernel
