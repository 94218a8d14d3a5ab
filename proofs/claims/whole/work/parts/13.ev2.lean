/-! What the tables say of constants, library calls, makings and throws. -/
theorem i_J4 : ∀ w ∈ u_ws RJ4 TJ4 4, w ∈ lw_tbl := by
  intro w hw
  have h : w ∈ [217, 219, 221, 223].filterMap (fun i => tables_1[i]?) := by
    rw [show [217, 219, 221, 223].filterMap (fun i => tables_1[i]?) = u_ws RJ4 TJ4 4 from by decide +kernel]
    exact hw
  obtain ⟨i, -, hi⟩ := List.mem_filterMap.mp h
  exact tb i hi
theorem ko_X8_1 : KO RX8 1 := ⟨tb 40 (by decide +kernel), tb 41 (by decide +kernel), tb 42 (by decide +kernel)⟩
theorem kn_X8_7 : KN RX8 7 4 [.null, .null, .null, .null, .int 0, .int 0, .long 0, .long 0] := ⟨RX7, TX7, 8, tyX7, rfl, i_X7, tyX7_ok, tb 43 (by decide +kernel), tb 44 (by decide +kernel), tb 2 (by decide +kernel), by decide +kernel, rfl⟩
theorem kn_X8_37 : KN RX8 37 2 [.null, .null] := ⟨RX4, TX4, 2, tyX4, rfl, i_X4, tyX4_ok, tb 145 (by decide +kernel), tb 146 (by decide +kernel), tb 5 (by decide +kernel), by decide +kernel, rfl⟩
theorem kn_X8_44 : KN RX8 44 3 [.null, .int 0, .int 0, .int 0, .null, .null, .int 0] := ⟨RX6, TX6, 7, tyX6, rfl, i_X6, tyX6_ok, tb 158 (by decide +kernel), tb 159 (by decide +kernel), tb 6 (by decide +kernel), by decide +kernel, rfl⟩
theorem kn_X8_51 : KN RX8 51 7 [.null, .int 0, .int 0, .int 0] := ⟨RJ4, TJ4, 4, tyJ4, rfl, i_J4, tyJ4_ok, tb 194 (by decide +kernel), tb 195 (by decide +kernel), tb 10 (by decide +kernel), by decide +kernel, rfl⟩
theorem km_X8_355 : KM RX8 355 Lib.Math.min.name Lib.Math.min.code .int := ⟨tb 350 (by decide +kernel), tb 318 (by decide +kernel), tb 24 (by decide +kernel), tb 319 (by decide +kernel)⟩
theorem gs_X8_360 : Cond.fieldLink RX8 360 "FountainShow$1" "$SwitchMap$FountainShow$Problem" "[I" ∈ lw_tbl ∨ ∃ host, Cond.fieldLinkNest RX8 360 "FountainShow$1" "$SwitchMap$FountainShow$Problem" "[I" host ∈ lw_tbl := Or.inl (tb 486 (by decide +kernel))
theorem ku_X8_365 : KU RX8 365 "FountainShow$Problem" "java/lang/Enum" ⟨"FountainShow$Problem", "ordinal", "()I"⟩ mJx29ce0_ordinal_8abf5 0 := ⟨rfl, rfl, ⟨tb 488 (by decide +kernel), tb 489 (by decide +kernel), tb 491 (by decide +kernel), tb 492 (by decide +kernel), tb 7 (by decide +kernel), tb 493 (by decide +kernel)⟩, ⟨by decide, by decide⟩, by decide +kernel, by decide⟩
theorem gs_X8_416 : Cond.fieldLink RX8 416 "FountainShow$Problem" "NONE" "LFountainShow$Problem;" ∈ lw_tbl ∨ ∃ host, Cond.fieldLinkNest RX8 416 "FountainShow$Problem" "NONE" "LFountainShow$Problem;" host ∈ lw_tbl := Or.inl (tb 1491 (by decide +kernel))
theorem ko_X2_3 : KO RX2 3 := ⟨tb 85 (by decide +kernel), tb 41 (by decide +kernel), tb 42 (by decide +kernel)⟩
theorem ka_X2_28 : KA RX2 28 := ⟨tb 348 (by decide +kernel), tb 326 (by decide +kernel), tb 325 (by decide +kernel), tb 23 (by decide +kernel)⟩
theorem gs_X2_38 : Cond.fieldLink RX2 38 "FountainShow$Problem" "NONE" "LFountainShow$Problem;" ∈ lw_tbl ∨ ∃ host, Cond.fieldLinkNest RX2 38 "FountainShow$Problem" "NONE" "LFountainShow$Problem;" host ∈ lw_tbl := Or.inl (tb 836 (by decide +kernel))
theorem gs_X2_44 : Cond.fieldLink RX2 44 "FountainShow$Problem" "STATE" "LFountainShow$Problem;" ∈ lw_tbl ∨ ∃ host, Cond.fieldLinkNest RX2 44 "FountainShow$Problem" "STATE" "LFountainShow$Problem;" host ∈ lw_tbl := Or.inl (tb 837 (by decide +kernel))
theorem ko_X3_3 : KO RX3 3 := ⟨tb 54 (by decide +kernel), tb 41 (by decide +kernel), tb 42 (by decide +kernel)⟩
theorem ka_X3_28 : KA RX3 28 := ⟨tb 343 (by decide +kernel), tb 326 (by decide +kernel), tb 325 (by decide +kernel), tb 23 (by decide +kernel)⟩
theorem gs_X3_34 : Cond.fieldLink RX3 34 "FountainShow$Problem" "ARGUMENT" "LFountainShow$Problem;" ∈ lw_tbl ∨ ∃ host, Cond.fieldLinkNest RX3 34 "FountainShow$Problem" "ARGUMENT" "LFountainShow$Problem;" host ∈ lw_tbl := Or.inl (tb 471 (by decide +kernel))
theorem gs_X3_44 : Cond.fieldLink RX3 44 "FountainShow$Problem" "UNSUPPORTED" "LFountainShow$Problem;" ∈ lw_tbl ∨ ∃ host, Cond.fieldLinkNest RX3 44 "FountainShow$Problem" "UNSUPPORTED" "LFountainShow$Problem;" host ∈ lw_tbl := Or.inl (tb 477 (by decide +kernel))
theorem gs_X3_47 : Cond.fieldLink RX3 47 "FountainShow$Problem" "NONE" "LFountainShow$Problem;" ∈ lw_tbl ∨ ∃ host, Cond.fieldLinkNest RX3 47 "FountainShow$Problem" "NONE" "LFountainShow$Problem;" host ∈ lw_tbl := Or.inl (tb 479 (by decide +kernel))
theorem gs_X3_50 : Cond.fieldLink RX3 50 "FountainShow$Problem" "STATE" "LFountainShow$Problem;" ∈ lw_tbl ∨ ∃ host, Cond.fieldLinkNest RX3 50 "FountainShow$Problem" "STATE" "LFountainShow$Problem;" host ∈ lw_tbl := Or.inl (tb 481 (by decide +kernel))
theorem gs_X3_56 : Cond.fieldLink RX3 56 "FountainShow$Problem" "INDEX" "LFountainShow$Problem;" ∈ lw_tbl ∨ ∃ host, Cond.fieldLinkNest RX3 56 "FountainShow$Problem" "INDEX" "LFountainShow$Problem;" host ∈ lw_tbl := Or.inl (tb 688 (by decide +kernel))
theorem km_X3_59 : KM RX3 59 Lib.Math.min.name Lib.Math.min.code .int := ⟨tb 380 (by decide +kernel), tb 318 (by decide +kernel), tb 24 (by decide +kernel), tb 319 (by decide +kernel)⟩
theorem km_X3_89 : KM RX3 89 Lib.MathLoose.abs_long.x Lib.MathLoose.abs_long.code .long := ⟨tb 792 (by decide +kernel), tb 793 (by decide +kernel), tb 24 (by decide +kernel), tb 794 (by decide +kernel)⟩
theorem ko_X4_3 : KO RX4 3 := ⟨tb 150 (by decide +kernel), tb 41 (by decide +kernel), tb 42 (by decide +kernel)⟩
theorem km_X4_28 : KM RX4 28 Lib.Math.min.name Lib.Math.min.code .int := ⟨tb 317 (by decide +kernel), tb 318 (by decide +kernel), tb 24 (by decide +kernel), tb 319 (by decide +kernel)⟩
theorem ka_X4_49 : KA RX4 49 := ⟨tb 324 (by decide +kernel), tb 326 (by decide +kernel), tb 325 (by decide +kernel), tb 23 (by decide +kernel)⟩
theorem ko_X6_3 : KO RX6 3 := ⟨tb 163 (by decide +kernel), tb 41 (by decide +kernel), tb 42 (by decide +kernel)⟩
theorem gs_X6_25 : Cond.fieldLink RX6 25 "FountainShow$Command" "TRIM" "LFountainShow$Command;" ∈ lw_tbl ∨ ∃ host, Cond.fieldLinkNest RX6 25 "FountainShow$Command" "TRIM" "LFountainShow$Command;" host ∈ lw_tbl := Or.inl (tb 164 (by decide +kernel))
theorem gs_X6_52 : Cond.fieldLink RX6 52 "FountainShow" "COMMANDS" "[LFountainShow$Command;" ∈ lw_tbl ∨ ∃ host, Cond.fieldLinkNest RX6 52 "FountainShow" "COMMANDS" "[LFountainShow$Command;" host ∈ lw_tbl := Or.inr ⟨"FountainShow", tb 1417 (by decide +kernel)⟩
theorem gs_X6_56 : Cond.fieldLink RX6 56 "FountainShow$Command" "pattern" "Ljava/lang/String;" ∈ lw_tbl ∨ ∃ host, Cond.fieldLinkNest RX6 56 "FountainShow$Command" "pattern" "Ljava/lang/String;" host ∈ lw_tbl := Or.inr ⟨"FountainShow", tb 2115 (by decide +kernel)⟩
theorem km_X6_64 : KM RX6 64 Lib.Math.max.name Lib.Math.max.code .int := ⟨tb 1463 (by decide +kernel), tb 414 (by decide +kernel), tb 24 (by decide +kernel), tb 415 (by decide +kernel)⟩
theorem ko_X7_3 : KO RX7 3 := ⟨tb 48 (by decide +kernel), tb 41 (by decide +kernel), tb 42 (by decide +kernel)⟩
theorem kn_X7_9 : KN RX7 9 1 [.null, .null, .int 0, .int 0, .int 0] := ⟨RX3, TX3, 5, tyX3, rfl, i_X3, tyX3_ok, tb 49 (by decide +kernel), tb 50 (by decide +kernel), tb 3 (by decide +kernel), by decide +kernel, rfl⟩
theorem kn_X7_18 : KN RX7 18 0 [.null, .null, .null, .null, .int 0] := ⟨RX2, TX2, 5, tyX2, rfl, i_X2, tyX2_ok, tb 80 (by decide +kernel), tb 81 (by decide +kernel), tb 4 (by decide +kernel), by decide +kernel, rfl⟩
theorem ka_X7_53 : KA RX7 53 := ⟨tb 349 (by decide +kernel), tb 326 (by decide +kernel), tb 325 (by decide +kernel), tb 23 (by decide +kernel)⟩
theorem gs_X7_71 : Cond.fieldLink RX7 71 "FountainShow$Problem" "INDEX" "LFountainShow$Problem;" ∈ lw_tbl ∨ ∃ host, Cond.fieldLinkNest RX7 71 "FountainShow$Problem" "INDEX" "LFountainShow$Problem;" host ∈ lw_tbl := Or.inl (tb 857 (by decide +kernel))
theorem gs_X7_77 : Cond.fieldLink RX7 77 "FountainShow$Problem" "STATE" "LFountainShow$Problem;" ∈ lw_tbl ∨ ∃ host, Cond.fieldLinkNest RX7 77 "FountainShow$Problem" "STATE" "LFountainShow$Problem;" host ∈ lw_tbl := Or.inl (tb 858 (by decide +kernel))
theorem gs_X7_80 : Cond.fieldLink RX7 80 "FountainShow$Problem" "NONE" "LFountainShow$Problem;" ∈ lw_tbl ∨ ∃ host, Cond.fieldLinkNest RX7 80 "FountainShow$Problem" "NONE" "LFountainShow$Problem;" host ∈ lw_tbl := Or.inl (tb 859 (by decide +kernel))
theorem gs_X7_86 : Cond.fieldLink RX7 86 "FountainShow$Problem" "ARGUMENT" "LFountainShow$Problem;" ∈ lw_tbl ∨ ∃ host, Cond.fieldLinkNest RX7 86 "FountainShow$Problem" "ARGUMENT" "LFountainShow$Problem;" host ∈ lw_tbl := Or.inl (tb 880 (by decide +kernel))
theorem km_X7_128 : KM RX7 128 Lib.Math.max.name Lib.Math.max.code .int := ⟨tb 413 (by decide +kernel), tb 414 (by decide +kernel), tb 24 (by decide +kernel), tb 415 (by decide +kernel)⟩
theorem gs_X7_139 : Cond.fieldLink RX7 139 "FountainShow$1" "$SwitchMap$FountainShow$Command" "[I" ∈ lw_tbl ∨ ∃ host, Cond.fieldLinkNest RX7 139 "FountainShow$1" "$SwitchMap$FountainShow$Command" "[I" host ∈ lw_tbl := Or.inl (tb 1478 (by decide +kernel))
theorem ku_X7_144 : KU RX7 144 "FountainShow$Command" "java/lang/Enum" ⟨"FountainShow$Command", "ordinal", "()I"⟩ mJx29ce0_ordinal_8abf5 0 := ⟨rfl, rfl, ⟨tb 1480 (by decide +kernel), tb 1481 (by decide +kernel), tb 1482 (by decide +kernel), tb 492 (by decide +kernel), tb 7 (by decide +kernel), tb 493 (by decide +kernel)⟩, ⟨by decide, by decide⟩, by decide +kernel, by decide⟩
theorem kn_L_8 : KN RL 8 5 [.null, .null, .null, .int 0, .null, .int 0, .int 0, .null, .null, .null, .int 0, .int 0] := ⟨RX8, TX8, 12, tyX8, rfl, i_X8, tyX8_ok, tb 35 (by decide +kernel), tb 36 (by decide +kernel), tb 1 (by decide +kernel), by decide +kernel, rfl⟩
theorem kn_L_154 : KN RL 154 6 [.int 0, .null, .null, .null, .null, .null, .int 0, .int 0, .null, .null, .null, .int 0, .int 0, .int 0, .int 0, .int 0, .int 0, .int 0, .int 0, .int 0] := ⟨RX9, TX9, 20, tyX9, rfl, i_X9, tyX9_ok, tb 1539 (by decide +kernel), tb 1540 (by decide +kernel), tb 13 (by decide +kernel), by decide +kernel, rfl⟩
theorem ko_X9_1 : KO RX9 1 := ⟨tb 1544 (by decide +kernel), tb 41 (by decide +kernel), tb 42 (by decide +kernel)⟩
theorem aw_int : Cond.arrayClass .int ∈ lw_tbl := tb 79 (by decide +kernel)
theorem aw_long : Cond.arrayClass .long ∈ lw_tbl := tb 2077 (by decide +kernel)
theorem aw_char : Cond.arrayClass .char ∈ lw_tbl := tb 193 (by decide +kernel)
theorem aw_double : Cond.arrayClass .double ∈ lw_tbl := tb 2078 (by decide +kernel)
theorem aw_byte : Cond.arrayClass .byte ∈ lw_tbl := tb 226 (by decide +kernel)
theorem gs_ord : Cond.fieldLink RJx29ce0 7 "java/lang/Enum" "ordinal" "I" ∈ lw_tbl ∨ ∃ host, Cond.fieldLinkNest RJx29ce0 7 "java/lang/Enum" "ordinal" "I" host ∈ lw_tbl := Or.inl (tb 2114 (by decide +kernel))
theorem st_X9_248 : Cond.stringRef RX9 248 "jet " ∈ lw_tbl := tb 2015 (by decide +kernel)
theorem st_X9_250 : Cond.stringRef RX9 250 "open " ∈ lw_tbl := tb 2030 (by decide +kernel)
theorem st_X9_252 : Cond.stringRef RX9 252 "=" ∈ lw_tbl := tb 2031 (by decide +kernel)
theorem st_X9_258 : Cond.stringRef RX9 258 "play " ∈ lw_tbl := tb 2036 (by decide +kernel)
theorem st_X9_260 : Cond.stringRef RX9 260 "+" ∈ lw_tbl := tb 2037 (by decide +kernel)
theorem st_X9_262 : Cond.stringRef RX9 262 "pass " ∈ lw_tbl := tb 2038 (by decide +kernel)
theorem st_X9_264 : Cond.stringRef RX9 264 "pump " ∈ lw_tbl := tb 2039 (by decide +kernel)
theorem st_X9_246 : Cond.stringRef RX9 246 "wind " ∈ lw_tbl := tb 2044 (by decide +kernel)
theorem st_X9_269 : Cond.stringRef RX9 269 "trim" ∈ lw_tbl := tb 2045 (by decide +kernel)
theorem st_X9_271 : Cond.stringRef RX9 271 "figure" ∈ lw_tbl := tb 2046 (by decide +kernel)
theorem st_X9_273 : Cond.stringRef RX9 273 "step " ∈ lw_tbl := tb 2047 (by decide +kernel)
theorem st_X9_275 : Cond.stringRef RX9 275 ":" ∈ lw_tbl := tb 2048 (by decide +kernel)
def ths : List String := ["java/lang/RuntimeException", "java/lang/Exception"]
theorem tw_X8_289_293 : ∀ w ∈ Cond.classLink RX8 289 "java/lang/ArithmeticException" :: Cond.initialized "java/lang/ArithmeticException" :: vx_atS RX8 293 "java/lang/ArithmeticException" ths, w ∈ lw_tbl ∧ vx_ot w = true := by
  intro w hw
  have h : (Cond.classLink RX8 289 "java/lang/ArithmeticException" :: Cond.initialized "java/lang/ArithmeticException" :: vx_atS RX8 293 "java/lang/ArithmeticException" ths).all (fun w => tables_1.contains w && vx_ot w) = true := by decide +kernel
  have h1 := List.all_eq_true.mp h w hw
  rw [Bool.and_eq_true] at h1
  exact ⟨List.mem_append_right _ (List.contains_iff_mem.mp h1.1), h1.2⟩
theorem th_X8_289_291_293 : TH RX8 289 291 293 "java/lang/ArithmeticException" "there are no jets" ths := ⟨by decide +kernel, by decide +kernel, tb 753 (by decide +kernel), tw_X8_289_293, by decide⟩
theorem th_X8_289_294_293 : TH RX8 289 294 293 "java/lang/ArithmeticException" "the demand is 0" ths := ⟨by decide +kernel, by decide +kernel, tb 1081 (by decide +kernel), tw_X8_289_293, by decide⟩
theorem tw_X8_305_309 : ∀ w ∈ Cond.classLink RX8 305 "java/lang/IndexOutOfBoundsException" :: Cond.initialized "java/lang/IndexOutOfBoundsException" :: vx_atS RX8 309 "java/lang/IndexOutOfBoundsException" ths, w ∈ lw_tbl ∧ vx_ot w = true := by
  intro w hw
  have h : (Cond.classLink RX8 305 "java/lang/IndexOutOfBoundsException" :: Cond.initialized "java/lang/IndexOutOfBoundsException" :: vx_atS RX8 309 "java/lang/IndexOutOfBoundsException" ths).all (fun w => tables_1.contains w && vx_ot w) = true := by decide +kernel
  have h1 := List.all_eq_true.mp h w hw
  rw [Bool.and_eq_true] at h1
  exact ⟨List.mem_append_right _ (List.contains_iff_mem.mp h1.1), h1.2⟩
theorem th_X8_305_307_309 : TH RX8 305 307 309 "java/lang/IndexOutOfBoundsException" "there is no such character" ths := ⟨by decide +kernel, by decide +kernel, tb 1375 (by decide +kernel), tw_X8_305_309, by decide⟩
theorem th_X8_305_370_309 : TH RX8 305 370 309 "java/lang/IndexOutOfBoundsException" "there is no such index" ths := ⟨by decide +kernel, by decide +kernel, tb 540 (by decide +kernel), tw_X8_305_309, by decide⟩
theorem th_X8_305_378_309 : TH RX8 305 378 309 "java/lang/IndexOutOfBoundsException" "there is no such jet" ths := ⟨by decide +kernel, by decide +kernel, tb 654 (by decide +kernel), tw_X8_305_309, by decide⟩
theorem th_X8_305_381_309 : TH RX8 305 381 309 "java/lang/IndexOutOfBoundsException" "there is no such figure" ths := ⟨by decide +kernel, by decide +kernel, tb 918 (by decide +kernel), tw_X8_305_309, by decide⟩
theorem th_X8_305_387_309 : TH RX8 305 387 309 "java/lang/IndexOutOfBoundsException" "there is no such figure or step" ths := ⟨by decide +kernel, by decide +kernel, tb 901 (by decide +kernel), tw_X8_305_309, by decide⟩
theorem th_X8_305_389_309 : TH RX8 305 389 309 "java/lang/IndexOutOfBoundsException" "there is no such entry" ths := ⟨by decide +kernel, by decide +kernel, tb 990 (by decide +kernel), tw_X8_305_309, by decide⟩
theorem tw_X8_318_322 : ∀ w ∈ Cond.classLink RX8 318 "java/lang/IllegalStateException" :: Cond.initialized "java/lang/IllegalStateException" :: vx_atS RX8 322 "java/lang/IllegalStateException" ths, w ∈ lw_tbl ∧ vx_ot w = true := by
  intro w hw
  have h : (Cond.classLink RX8 318 "java/lang/IllegalStateException" :: Cond.initialized "java/lang/IllegalStateException" :: vx_atS RX8 322 "java/lang/IllegalStateException" ths).all (fun w => tables_1.contains w && vx_ot w) = true := by decide +kernel
  have h1 := List.all_eq_true.mp h w hw
  rw [Bool.and_eq_true] at h1
  exact ⟨List.mem_append_right _ (List.contains_iff_mem.mp h1.1), h1.2⟩
theorem th_X8_318_320_322 : TH RX8 318 320 322 "java/lang/IllegalStateException" "the input buffer is full" ths := ⟨by decide +kernel, by decide +kernel, tb 1397 (by decide +kernel), tw_X8_318_322, by decide⟩
theorem th_X8_318_351_322 : TH RX8 318 351 322 "java/lang/IllegalStateException" "there is no change to undo" ths := ⟨by decide +kernel, by decide +kernel, tb 1530 (by decide +kernel), tw_X8_318_322, by decide⟩
theorem th_X8_318_353_322 : TH RX8 318 353 322 "java/lang/IllegalStateException" "nothing was saved" ths := ⟨by decide +kernel, by decide +kernel, tb 1538 (by decide +kernel), tw_X8_318_322, by decide⟩
theorem th_X8_318_376_322 : TH RX8 318 376 322 "java/lang/IllegalStateException" "the state does not allow it" ths := ⟨by decide +kernel, by decide +kernel, tb 607 (by decide +kernel), tw_X8_318_322, by decide⟩
theorem tw_X8_331_335 : ∀ w ∈ Cond.classLink RX8 331 "java/lang/IllegalArgumentException" :: Cond.initialized "java/lang/IllegalArgumentException" :: vx_atS RX8 335 "java/lang/IllegalArgumentException" ths, w ∈ lw_tbl ∧ vx_ot w = true := by
  intro w hw
  have h : (Cond.classLink RX8 331 "java/lang/IllegalArgumentException" :: Cond.initialized "java/lang/IllegalArgumentException" :: vx_atS RX8 335 "java/lang/IllegalArgumentException" ths).all (fun w => tables_1.contains w && vx_ot w) = true := by decide +kernel
  have h1 := List.all_eq_true.mp h w hw
  rw [Bool.and_eq_true] at h1
  exact ⟨List.mem_append_right _ (List.contains_iff_mem.mp h1.1), h1.2⟩
theorem th_X8_331_333_335 : TH RX8 331 333 335 "java/lang/IllegalArgumentException" "the text is malformed" ths := ⟨by decide +kernel, by decide +kernel, tb 1468 (by decide +kernel), tw_X8_331_335, by decide⟩
theorem th_X8_331_372_335 : TH RX8 331 372 335 "java/lang/IllegalArgumentException" "a number is out of its range" ths := ⟨by decide +kernel, by decide +kernel, tb 575 (by decide +kernel), tw_X8_331_335, by decide⟩
theorem th_X8_331_391_335 : TH RX8 331 391 335 "java/lang/IllegalArgumentException" "a forecast is for 0 to 40 beats" ths := ⟨by decide +kernel, by decide +kernel, tb 1035 (by decide +kernel), tw_X8_331_335, by decide⟩
theorem tw_X8_342_346 : ∀ w ∈ Cond.classLink RX8 342 "java/lang/UnsupportedOperationException" :: Cond.initialized "java/lang/UnsupportedOperationException" :: vx_atS RX8 346 "java/lang/UnsupportedOperationException" ths, w ∈ lw_tbl ∧ vx_ot w = true := by
  intro w hw
  have h : (Cond.classLink RX8 342 "java/lang/UnsupportedOperationException" :: Cond.initialized "java/lang/UnsupportedOperationException" :: vx_atS RX8 346 "java/lang/UnsupportedOperationException" ths).all (fun w => tables_1.contains w && vx_ot w) = true := by decide +kernel
  have h1 := List.all_eq_true.mp h w hw
  rw [Bool.and_eq_true] at h1
  exact ⟨List.mem_append_right _ (List.contains_iff_mem.mp h1.1), h1.2⟩
theorem th_X8_342_344_346 : TH RX8 342 344 346 "java/lang/UnsupportedOperationException" "a command failed" ths := ⟨by decide +kernel, by decide +kernel, tb 1506 (by decide +kernel), tw_X8_342_346, by decide⟩
theorem th_X8_342_374_346 : TH RX8 342 374 346 "java/lang/UnsupportedOperationException" "the position is taken" ths := ⟨by decide +kernel, by decide +kernel, tb 591 (by decide +kernel), tw_X8_342_346, by decide⟩
theorem kx_L_157 : KSX RL 157 mL_addJet 3 := ⟨⟨_, _, rfl⟩, ⟨(tb 457 (by decide +kernel)), (tb 458 (by decide +kernel)), (tb 0 (by decide +kernel)), tb 459 (by decide +kernel)⟩, ⟨by decide +kernel, by decide +kernel⟩, by decide +kernel, by decide⟩
theorem kx_L_166 : KSX RL 166 mL_removeJet 3 := ⟨⟨_, _, rfl⟩, ⟨(tb 618 (by decide +kernel)), (tb 619 (by decide +kernel)), (tb 0 (by decide +kernel)), tb 620 (by decide +kernel)⟩, ⟨by decide +kernel, by decide +kernel⟩, by decide +kernel, by decide⟩
theorem kx_L_169 : KSX RL 169 mL_setOpening 4 := ⟨⟨_, _, rfl⟩, ⟨(tb 676 (by decide +kernel)), (tb 677 (by decide +kernel)), (tb 0 (by decide +kernel)), tb 678 (by decide +kernel)⟩, ⟨by decide +kernel, by decide +kernel⟩, by decide +kernel, by decide⟩
theorem kx_L_177 : KSX RL 177 mL_position 3 := ⟨⟨_, _, rfl⟩, ⟨(tb 694 (by decide +kernel)), (tb 695 (by decide +kernel)), (tb 0 (by decide +kernel)), tb 696 (by decide +kernel)⟩, ⟨by decide +kernel, by decide +kernel⟩, by decide +kernel, by decide⟩
theorem kx_L_180 : KSX RL 180 mL_opening 3 := ⟨⟨_, _, rfl⟩, ⟨(tb 701 (by decide +kernel)), (tb 702 (by decide +kernel)), (tb 0 (by decide +kernel)), tb 703 (by decide +kernel)⟩, ⟨by decide +kernel, by decide +kernel⟩, by decide +kernel, by decide⟩
theorem kx_L_183 : KSX RL 183 mL_height 3 := ⟨⟨_, _, rfl⟩, ⟨(tb 708 (by decide +kernel)), (tb 709 (by decide +kernel)), (tb 0 (by decide +kernel)), tb 710 (by decide +kernel)⟩, ⟨by decide +kernel, by decide +kernel⟩, by decide +kernel, by decide⟩
theorem kx_L_186 : KSX RL 186 mL_landing 3 := ⟨⟨_, _, rfl⟩, ⟨(tb 716 (by decide +kernel)), (tb 717 (by decide +kernel)), (tb 0 (by decide +kernel)), tb 718 (by decide +kernel)⟩, ⟨by decide +kernel, by decide +kernel⟩, by decide +kernel, by decide⟩
theorem kx_L_189 : KSX RL 189 mL_isWild 3 := ⟨⟨_, _, rfl⟩, ⟨(tb 724 (by decide +kernel)), (tb 725 (by decide +kernel)), (tb 0 (by decide +kernel)), tb 726 (by decide +kernel)⟩, ⟨by decide +kernel, by decide +kernel⟩, by decide +kernel, by decide⟩
theorem kx_L_196 : KSX RL 196 mL_highestJet 2 := ⟨⟨_, _, rfl⟩, ⟨(tb 732 (by decide +kernel)), (tb 733 (by decide +kernel)), (tb 0 (by decide +kernel)), tb 734 (by decide +kernel)⟩, ⟨by decide +kernel, by decide +kernel⟩, by decide +kernel, by decide⟩
theorem kx_L_200 : KSX RL 200 mL_jetByPosition 3 := ⟨⟨_, _, rfl⟩, ⟨(tb 764 (by decide +kernel)), (tb 765 (by decide +kernel)), (tb 0 (by decide +kernel)), tb 766 (by decide +kernel)⟩, ⟨by decide +kernel, by decide +kernel⟩, by decide +kernel, by decide⟩
theorem kx_L_203 : KSX RL 203 mL_nearestLanding 3 := ⟨⟨_, _, rfl⟩, ⟨(tb 777 (by decide +kernel)), (tb 778 (by decide +kernel)), (tb 0 (by decide +kernel)), tb 779 (by decide +kernel)⟩, ⟨by decide +kernel, by decide +kernel⟩, by decide +kernel, by decide⟩
theorem kx_L_214 : KSX RL 214 mL_setCapacity 3 := ⟨⟨_, _, rfl⟩, ⟨(tb 795 (by decide +kernel)), (tb 796 (by decide +kernel)), (tb 0 (by decide +kernel)), tb 797 (by decide +kernel)⟩, ⟨by decide +kernel, by decide +kernel⟩, by decide +kernel, by decide⟩
theorem kx_L_217 : KSX RL 217 mL_setWind 3 := ⟨⟨_, _, rfl⟩, ⟨(tb 810 (by decide +kernel)), (tb 811 (by decide +kernel)), (tb 0 (by decide +kernel)), tb 812 (by decide +kernel)⟩, ⟨by decide +kernel, by decide +kernel⟩, by decide +kernel, by decide⟩
theorem kx_L_249 : KSX RL 249 mL_addFigure 2 := ⟨⟨_, _, rfl⟩, ⟨(tb 825 (by decide +kernel)), (tb 826 (by decide +kernel)), (tb 0 (by decide +kernel)), tb 827 (by decide +kernel)⟩, ⟨by decide +kernel, by decide +kernel⟩, by decide +kernel, by decide⟩
theorem kx_L_252 : KSX RL 252 mL_removeFigure 3 := ⟨⟨_, _, rfl⟩, ⟨(tb 842 (by decide +kernel)), (tb 843 (by decide +kernel)), (tb 0 (by decide +kernel)), tb 844 (by decide +kernel)⟩, ⟨by decide +kernel, by decide +kernel⟩, by decide +kernel, by decide⟩
theorem kx_L_255 : KSX RL 255 mL_addStep 6 := ⟨⟨_, _, rfl⟩, ⟨(tb 868 (by decide +kernel)), (tb 869 (by decide +kernel)), (tb 0 (by decide +kernel)), tb 870 (by decide +kernel)⟩, ⟨by decide +kernel, by decide +kernel⟩, by decide +kernel, by decide⟩
theorem kx_L_259 : KSX RL 259 mL_removeStep 4 := ⟨⟨_, _, rfl⟩, ⟨(tb 885 (by decide +kernel)), (tb 886 (by decide +kernel)), (tb 0 (by decide +kernel)), tb 887 (by decide +kernel)⟩, ⟨by decide +kernel, by decide +kernel⟩, by decide +kernel, by decide⟩
theorem kx_L_266 : KSX RL 266 mL_stepCount 3 := ⟨⟨_, _, rfl⟩, ⟨(tb 906 (by decide +kernel)), (tb 907 (by decide +kernel)), (tb 0 (by decide +kernel)), tb 908 (by decide +kernel)⟩, ⟨by decide +kernel, by decide +kernel⟩, by decide +kernel, by decide⟩
theorem kx_L_269 : KSX RL 269 mL_stepDelay 4 := ⟨⟨_, _, rfl⟩, ⟨(tb 919 (by decide +kernel)), (tb 920 (by decide +kernel)), (tb 0 (by decide +kernel)), tb 921 (by decide +kernel)⟩, ⟨by decide +kernel, by decide +kernel⟩, by decide +kernel, by decide⟩
theorem kx_L_272 : KSX RL 272 mL_stepJet 4 := ⟨⟨_, _, rfl⟩, ⟨(tb 927 (by decide +kernel)), (tb 928 (by decide +kernel)), (tb 0 (by decide +kernel)), tb 929 (by decide +kernel)⟩, ⟨by decide +kernel, by decide +kernel⟩, by decide +kernel, by decide⟩
theorem kx_L_275 : KSX RL 275 mL_stepOpening 4 := ⟨⟨_, _, rfl⟩, ⟨(tb 934 (by decide +kernel)), (tb 935 (by decide +kernel)), (tb 0 (by decide +kernel)), tb 936 (by decide +kernel)⟩, ⟨by decide +kernel, by decide +kernel⟩, by decide +kernel, by decide⟩
theorem kx_L_278 : KSX RL 278 mL_figureLength 3 := ⟨⟨_, _, rfl⟩, ⟨(tb 941 (by decide +kernel)), (tb 942 (by decide +kernel)), (tb 0 (by decide +kernel)), tb 943 (by decide +kernel)⟩, ⟨by decide +kernel, by decide +kernel⟩, by decide +kernel, by decide⟩
theorem kx_L_281 : KSX RL 281 mL_figuresUsing 3 := ⟨⟨_, _, rfl⟩, ⟨(tb 949 (by decide +kernel)), (tb 950 (by decide +kernel)), (tb 0 (by decide +kernel)), tb 951 (by decide +kernel)⟩, ⟨by decide +kernel, by decide +kernel⟩, by decide +kernel, by decide⟩
theorem kx_L_284 : KSX RL 284 mL_play 4 := ⟨⟨_, _, rfl⟩, ⟨(tb 964 (by decide +kernel)), (tb 965 (by decide +kernel)), (tb 0 (by decide +kernel)), tb 966 (by decide +kernel)⟩, ⟨by decide +kernel, by decide +kernel⟩, by decide +kernel, by decide⟩
theorem kx_L_287 : KSX RL 287 mL_cancel 3 := ⟨⟨_, _, rfl⟩, ⟨(tb 979 (by decide +kernel)), (tb 980 (by decide +kernel)), (tb 0 (by decide +kernel)), tb 981 (by decide +kernel)⟩, ⟨by decide +kernel, by decide +kernel⟩, by decide +kernel, by decide⟩
theorem kx_L_290 : KSX RL 290 mL_pass 3 := ⟨⟨_, _, rfl⟩, ⟨(tb 995 (by decide +kernel)), (tb 996 (by decide +kernel)), (tb 0 (by decide +kernel)), tb 997 (by decide +kernel)⟩, ⟨by decide +kernel, by decide +kernel⟩, by decide +kernel, by decide⟩
theorem kx_L_301 : KSX RL 301 mL_entryFigure 3 := ⟨⟨_, _, rfl⟩, ⟨(tb 1011 (by decide +kernel)), (tb 1012 (by decide +kernel)), (tb 0 (by decide +kernel)), tb 1013 (by decide +kernel)⟩, ⟨by decide +kernel, by decide +kernel⟩, by decide +kernel, by decide⟩
theorem kx_L_304 : KSX RL 304 mL_entryStart 3 := ⟨⟨_, _, rfl⟩, ⟨(tb 1018 (by decide +kernel)), (tb 1019 (by decide +kernel)), (tb 0 (by decide +kernel)), tb 1020 (by decide +kernel)⟩, ⟨by decide +kernel, by decide +kernel⟩, by decide +kernel, by decide⟩
theorem kx_L_311 : KSX RL 311 mL_demandAfter 3 := ⟨⟨_, _, rfl⟩, ⟨(tb 1025 (by decide +kernel)), (tb 1026 (by decide +kernel)), (tb 0 (by decide +kernel)), tb 1027 (by decide +kernel)⟩, ⟨by decide +kernel, by decide +kernel⟩, by decide +kernel, by decide⟩
theorem kx_L_314 : KSX RL 314 mL_demandAfterBySteps 3 := ⟨⟨_, _, rfl⟩, ⟨(tb 1036 (by decide +kernel)), (tb 1037 (by decide +kernel)), (tb 0 (by decide +kernel)), tb 1038 (by decide +kernel)⟩, ⟨by decide +kernel, by decide +kernel⟩, by decide +kernel, by decide⟩
theorem kx_L_317 : KSX RL 317 mL_firstOverload 3 := ⟨⟨_, _, rfl⟩, ⟨(tb 1043 (by decide +kernel)), (tb 1044 (by decide +kernel)), (tb 0 (by decide +kernel)), tb 1045 (by decide +kernel)⟩, ⟨by decide +kernel, by decide +kernel⟩, by decide +kernel, by decide⟩
theorem kx_L_320 : KSX RL 320 mL_meanOpening 2 := ⟨⟨_, _, rfl⟩, ⟨(tb 1051 (by decide +kernel)), (tb 1052 (by decide +kernel)), (tb 0 (by decide +kernel)), tb 1053 (by decide +kernel)⟩, ⟨by decide +kernel, by decide +kernel⟩, by decide +kernel, by decide⟩
theorem kx_L_324 : KSX RL 324 mL_supplyFraction 2 := ⟨⟨_, _, rfl⟩, ⟨(tb 1074 (by decide +kernel)), (tb 1075 (by decide +kernel)), (tb 0 (by decide +kernel)), tb 1076 (by decide +kernel)⟩, ⟨by decide +kernel, by decide +kernel⟩, by decide +kernel, by decide⟩
theorem kx_L_327 : KSX RL 327 mL_writeFigure 3 := ⟨⟨_, _, rfl⟩, ⟨(tb 1082 (by decide +kernel)), (tb 1083 (by decide +kernel)), (tb 0 (by decide +kernel)), tb 1084 (by decide +kernel)⟩, ⟨by decide +kernel, by decide +kernel⟩, by decide +kernel, by decide⟩
theorem kx_L_330 : KSX RL 330 mL_outputCharacter 3 := ⟨⟨_, _, rfl⟩, ⟨(tb 1368 (by decide +kernel)), (tb 1369 (by decide +kernel)), (tb 0 (by decide +kernel)), tb 1370 (by decide +kernel)⟩, ⟨by decide +kernel, by decide +kernel⟩, by decide +kernel, by decide⟩
theorem kx_L_338 : KSX RL 338 mL_feed 3 := ⟨⟨_, _, rfl⟩, ⟨(tb 1386 (by decide +kernel)), (tb 1387 (by decide +kernel)), (tb 0 (by decide +kernel)), tb 1388 (by decide +kernel)⟩, ⟨by decide +kernel, by decide +kernel⟩, by decide +kernel, by decide⟩
theorem kx_L_342 : KSX RL 342 mL_execute 2 := ⟨⟨_, _, rfl⟩, ⟨(tb 1402 (by decide +kernel)), (tb 1403 (by decide +kernel)), (tb 0 (by decide +kernel)), tb 1404 (by decide +kernel)⟩, ⟨by decide +kernel, by decide +kernel⟩, by decide +kernel, by decide⟩
theorem kx_L_345 : KSX RL 345 mL_errorPosition 2 := ⟨⟨_, _, rfl⟩, ⟨(tb 1507 (by decide +kernel)), (tb 1508 (by decide +kernel)), (tb 0 (by decide +kernel)), tb 1509 (by decide +kernel)⟩, ⟨by decide +kernel, by decide +kernel⟩, by decide +kernel, by decide⟩
theorem kx_L_348 : KSX RL 348 mL_failedCommand 2 := ⟨⟨_, _, rfl⟩, ⟨(tb 1515 (by decide +kernel)), (tb 1516 (by decide +kernel)), (tb 0 (by decide +kernel)), tb 1517 (by decide +kernel)⟩, ⟨by decide +kernel, by decide +kernel⟩, by decide +kernel, by decide⟩
theorem kx_L_351 : KSX RL 351 mL_undo 2 := ⟨⟨_, _, rfl⟩, ⟨(tb 1523 (by decide +kernel)), (tb 1524 (by decide +kernel)), (tb 0 (by decide +kernel)), tb 1525 (by decide +kernel)⟩, ⟨by decide +kernel, by decide +kernel⟩, by decide +kernel, by decide⟩
theorem kx_L_362 : KSX RL 362 mL_restore 2 := ⟨⟨_, _, rfl⟩, ⟨(tb 1531 (by decide +kernel)), (tb 1532 (by decide +kernel)), (tb 0 (by decide +kernel)), tb 1533 (by decide +kernel)⟩, ⟨by decide +kernel, by decide +kernel⟩, by decide +kernel, by decide⟩
