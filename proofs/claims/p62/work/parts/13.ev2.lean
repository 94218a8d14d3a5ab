/-! What the tables say of constants, library calls, makings and throws. -/
theorem i_J4 : ∀ w ∈ u_ws RJ4 TJ4 4, w ∈ lw_tbl := by
  intro w hw
  have h : w ∈ [216, 218, 220, 222].filterMap (fun i => tables_1[i]?) := by
    rw [show [216, 218, 220, 222].filterMap (fun i => tables_1[i]?) = u_ws RJ4 TJ4 4 from by decide +kernel]
    exact hw
  obtain ⟨i, -, hi⟩ := List.mem_filterMap.mp h
  exact tb i hi
theorem ko_X8_1 : KO RX8 1 := ⟨tb 39 (by decide +kernel), tb 40 (by decide +kernel), tb 41 (by decide +kernel)⟩
theorem kn_X8_7 : KN RX8 7 4 [.null, .null, .null, .null, .int 0, .int 0, .long 0, .long 0] := ⟨RX7, TX7, 8, tyX7, rfl, i_X7, tyX7_ok, tb 42 (by decide +kernel), tb 43 (by decide +kernel), tb 2 (by decide +kernel), by decide +kernel, rfl⟩
theorem kn_X8_37 : KN RX8 37 2 [.null, .null] := ⟨RX4, TX4, 2, tyX4, rfl, i_X4, tyX4_ok, tb 144 (by decide +kernel), tb 145 (by decide +kernel), tb 5 (by decide +kernel), by decide +kernel, rfl⟩
theorem kn_X8_44 : KN RX8 44 3 [.null, .int 0, .int 0, .int 0, .null, .null, .int 0] := ⟨RX6, TX6, 7, tyX6, rfl, i_X6, tyX6_ok, tb 157 (by decide +kernel), tb 158 (by decide +kernel), tb 6 (by decide +kernel), by decide +kernel, rfl⟩
theorem kn_X8_51 : KN RX8 51 7 [.null, .int 0, .int 0, .int 0] := ⟨RJ4, TJ4, 4, tyJ4, rfl, i_J4, tyJ4_ok, tb 193 (by decide +kernel), tb 194 (by decide +kernel), tb 10 (by decide +kernel), by decide +kernel, rfl⟩
theorem km_X8_355 : KM RX8 355 Lib.Math.min.name Lib.Math.min.code .int := ⟨tb 589 (by decide +kernel), tb 462 (by decide +kernel), tb 20 (by decide +kernel), tb 463 (by decide +kernel)⟩
theorem gs_X8_360 : Cond.fieldLink RX8 360 "FountainShow$1" "$SwitchMap$FountainShow$Problem" "[I" ∈ lw_tbl ∨ ∃ host, Cond.fieldLinkNest RX8 360 "FountainShow$1" "$SwitchMap$FountainShow$Problem" "[I" host ∈ lw_tbl := Or.inl (tb 528 (by decide +kernel))
theorem ku_X8_365 : KU RX8 365 "FountainShow$Problem" "java/lang/Enum" ⟨"FountainShow$Problem", "ordinal", "()I"⟩ mJx29ce0_ordinal_8abf5 0 := ⟨rfl, rfl, ⟨tb 530 (by decide +kernel), tb 531 (by decide +kernel), tb 533 (by decide +kernel), tb 534 (by decide +kernel), tb 7 (by decide +kernel), tb 535 (by decide +kernel)⟩, ⟨by decide, by decide⟩, by decide +kernel, by decide⟩
theorem gs_X8_416 : Cond.fieldLink RX8 416 "FountainShow$Problem" "NONE" "LFountainShow$Problem;" ∈ lw_tbl ∨ ∃ host, Cond.fieldLinkNest RX8 416 "FountainShow$Problem" "NONE" "LFountainShow$Problem;" host ∈ lw_tbl := Or.inl (tb 1164 (by decide +kernel))
theorem ko_X2_3 : KO RX2 3 := ⟨tb 84 (by decide +kernel), tb 40 (by decide +kernel), tb 41 (by decide +kernel)⟩
theorem ka_X2_28 : KA RX2 28 := ⟨tb 431 (by decide +kernel), tb 426 (by decide +kernel), tb 425 (by decide +kernel), tb 22 (by decide +kernel)⟩
theorem gs_X2_38 : Cond.fieldLink RX2 38 "FountainShow$Problem" "NONE" "LFountainShow$Problem;" ∈ lw_tbl ∨ ∃ host, Cond.fieldLinkNest RX2 38 "FountainShow$Problem" "NONE" "LFountainShow$Problem;" host ∈ lw_tbl := Or.inl (tb 723 (by decide +kernel))
theorem gs_X2_44 : Cond.fieldLink RX2 44 "FountainShow$Problem" "STATE" "LFountainShow$Problem;" ∈ lw_tbl ∨ ∃ host, Cond.fieldLinkNest RX2 44 "FountainShow$Problem" "STATE" "LFountainShow$Problem;" host ∈ lw_tbl := Or.inl (tb 724 (by decide +kernel))
theorem ko_X3_3 : KO RX3 3 := ⟨tb 53 (by decide +kernel), tb 40 (by decide +kernel), tb 41 (by decide +kernel)⟩
theorem ka_X3_28 : KA RX3 28 := ⟨tb 424 (by decide +kernel), tb 426 (by decide +kernel), tb 425 (by decide +kernel), tb 22 (by decide +kernel)⟩
theorem gs_X3_34 : Cond.fieldLink RX3 34 "FountainShow$Problem" "ARGUMENT" "LFountainShow$Problem;" ∈ lw_tbl ∨ ∃ host, Cond.fieldLinkNest RX3 34 "FountainShow$Problem" "ARGUMENT" "LFountainShow$Problem;" host ∈ lw_tbl := Or.inl (tb 513 (by decide +kernel))
theorem gs_X3_44 : Cond.fieldLink RX3 44 "FountainShow$Problem" "UNSUPPORTED" "LFountainShow$Problem;" ∈ lw_tbl ∨ ∃ host, Cond.fieldLinkNest RX3 44 "FountainShow$Problem" "UNSUPPORTED" "LFountainShow$Problem;" host ∈ lw_tbl := Or.inl (tb 519 (by decide +kernel))
theorem gs_X3_47 : Cond.fieldLink RX3 47 "FountainShow$Problem" "NONE" "LFountainShow$Problem;" ∈ lw_tbl ∨ ∃ host, Cond.fieldLinkNest RX3 47 "FountainShow$Problem" "NONE" "LFountainShow$Problem;" host ∈ lw_tbl := Or.inl (tb 521 (by decide +kernel))
theorem gs_X3_50 : Cond.fieldLink RX3 50 "FountainShow$Problem" "STATE" "LFountainShow$Problem;" ∈ lw_tbl ∨ ∃ host, Cond.fieldLinkNest RX3 50 "FountainShow$Problem" "STATE" "LFountainShow$Problem;" host ∈ lw_tbl := Or.inl (tb 523 (by decide +kernel))
theorem gs_X3_56 : Cond.fieldLink RX3 56 "FountainShow$Problem" "INDEX" "LFountainShow$Problem;" ∈ lw_tbl ∨ ∃ host, Cond.fieldLinkNest RX3 56 "FountainShow$Problem" "INDEX" "LFountainShow$Problem;" host ∈ lw_tbl := Or.inl (tb 664 (by decide +kernel))
theorem km_X3_59 : KM RX3 59 Lib.Math.min.name Lib.Math.min.code .int := ⟨tb 461 (by decide +kernel), tb 462 (by decide +kernel), tb 20 (by decide +kernel), tb 463 (by decide +kernel)⟩
theorem km_X3_89 : KM RX3 89 Lib.MathLoose.abs_long.x Lib.MathLoose.abs_long.code .long := ⟨tb 1447 (by decide +kernel), tb 1448 (by decide +kernel), tb 20 (by decide +kernel), tb 1449 (by decide +kernel)⟩
theorem ko_X4_3 : KO RX4 3 := ⟨tb 149 (by decide +kernel), tb 40 (by decide +kernel), tb 41 (by decide +kernel)⟩
theorem km_X4_28 : KM RX4 28 Lib.Math.min.name Lib.Math.min.code .int := ⟨tb 1365 (by decide +kernel), tb 462 (by decide +kernel), tb 20 (by decide +kernel), tb 463 (by decide +kernel)⟩
theorem ka_X4_49 : KA RX4 49 := ⟨tb 1370 (by decide +kernel), tb 426 (by decide +kernel), tb 425 (by decide +kernel), tb 22 (by decide +kernel)⟩
theorem ko_X6_3 : KO RX6 3 := ⟨tb 162 (by decide +kernel), tb 40 (by decide +kernel), tb 41 (by decide +kernel)⟩
theorem gs_X6_25 : Cond.fieldLink RX6 25 "FountainShow$Command" "TRIM" "LFountainShow$Command;" ∈ lw_tbl ∨ ∃ host, Cond.fieldLinkNest RX6 25 "FountainShow$Command" "TRIM" "LFountainShow$Command;" host ∈ lw_tbl := Or.inl (tb 163 (by decide +kernel))
theorem gs_X6_52 : Cond.fieldLink RX6 52 "FountainShow" "COMMANDS" "[LFountainShow$Command;" ∈ lw_tbl ∨ ∃ host, Cond.fieldLinkNest RX6 52 "FountainShow" "COMMANDS" "[LFountainShow$Command;" host ∈ lw_tbl := Or.inr ⟨"FountainShow", tb 1104 (by decide +kernel)⟩
theorem gs_X6_56 : Cond.fieldLink RX6 56 "FountainShow$Command" "pattern" "Ljava/lang/String;" ∈ lw_tbl ∨ ∃ host, Cond.fieldLinkNest RX6 56 "FountainShow$Command" "pattern" "Ljava/lang/String;" host ∈ lw_tbl := Or.inr ⟨"FountainShow", tb 1609 (by decide +kernel)⟩
theorem km_X6_64 : KM RX6 64 Lib.Math.max.name Lib.Math.max.code .int := ⟨tb 1136 (by decide +kernel), tb 320 (by decide +kernel), tb 20 (by decide +kernel), tb 321 (by decide +kernel)⟩
theorem ko_X7_3 : KO RX7 3 := ⟨tb 47 (by decide +kernel), tb 40 (by decide +kernel), tb 41 (by decide +kernel)⟩
theorem kn_X7_9 : KN RX7 9 1 [.null, .null, .int 0, .int 0, .int 0] := ⟨RX3, TX3, 5, tyX3, rfl, i_X3, tyX3_ok, tb 48 (by decide +kernel), tb 49 (by decide +kernel), tb 3 (by decide +kernel), by decide +kernel, rfl⟩
theorem kn_X7_18 : KN RX7 18 0 [.null, .null, .null, .null, .int 0] := ⟨RX2, TX2, 5, tyX2, rfl, i_X2, tyX2_ok, tb 79 (by decide +kernel), tb 80 (by decide +kernel), tb 4 (by decide +kernel), by decide +kernel, rfl⟩
theorem ka_X7_53 : KA RX7 53 := ⟨tb 432 (by decide +kernel), tb 426 (by decide +kernel), tb 425 (by decide +kernel), tb 22 (by decide +kernel)⟩
theorem gs_X7_71 : Cond.fieldLink RX7 71 "FountainShow$Problem" "INDEX" "LFountainShow$Problem;" ∈ lw_tbl ∨ ∃ host, Cond.fieldLinkNest RX7 71 "FountainShow$Problem" "INDEX" "LFountainShow$Problem;" host ∈ lw_tbl := Or.inl (tb 744 (by decide +kernel))
theorem gs_X7_77 : Cond.fieldLink RX7 77 "FountainShow$Problem" "STATE" "LFountainShow$Problem;" ∈ lw_tbl ∨ ∃ host, Cond.fieldLinkNest RX7 77 "FountainShow$Problem" "STATE" "LFountainShow$Problem;" host ∈ lw_tbl := Or.inl (tb 745 (by decide +kernel))
theorem gs_X7_80 : Cond.fieldLink RX7 80 "FountainShow$Problem" "NONE" "LFountainShow$Problem;" ∈ lw_tbl ∨ ∃ host, Cond.fieldLinkNest RX7 80 "FountainShow$Problem" "NONE" "LFountainShow$Problem;" host ∈ lw_tbl := Or.inl (tb 746 (by decide +kernel))
theorem gs_X7_86 : Cond.fieldLink RX7 86 "FountainShow$Problem" "ARGUMENT" "LFountainShow$Problem;" ∈ lw_tbl ∨ ∃ host, Cond.fieldLinkNest RX7 86 "FountainShow$Problem" "ARGUMENT" "LFountainShow$Problem;" host ∈ lw_tbl := Or.inl (tb 788 (by decide +kernel))
theorem km_X7_128 : KM RX7 128 Lib.Math.max.name Lib.Math.max.code .int := ⟨tb 319 (by decide +kernel), tb 320 (by decide +kernel), tb 20 (by decide +kernel), tb 321 (by decide +kernel)⟩
theorem gs_X7_139 : Cond.fieldLink RX7 139 "FountainShow$1" "$SwitchMap$FountainShow$Command" "[I" ∈ lw_tbl ∨ ∃ host, Cond.fieldLinkNest RX7 139 "FountainShow$1" "$SwitchMap$FountainShow$Command" "[I" host ∈ lw_tbl := Or.inl (tb 1151 (by decide +kernel))
theorem ku_X7_144 : KU RX7 144 "FountainShow$Command" "java/lang/Enum" ⟨"FountainShow$Command", "ordinal", "()I"⟩ mJx29ce0_ordinal_8abf5 0 := ⟨rfl, rfl, ⟨tb 1153 (by decide +kernel), tb 1154 (by decide +kernel), tb 1155 (by decide +kernel), tb 534 (by decide +kernel), tb 7 (by decide +kernel), tb 535 (by decide +kernel)⟩, ⟨by decide, by decide⟩, by decide +kernel, by decide⟩
theorem kn_L_15 : KN RL 15 5 [.null, .null, .null, .int 0, .null, .int 0, .int 0, .null, .null, .null, .int 0, .int 0] := ⟨RX8, TX8, 12, tyX8, rfl, i_X8, tyX8_ok, tb 34 (by decide +kernel), tb 35 (by decide +kernel), tb 1 (by decide +kernel), by decide +kernel, rfl⟩
theorem kn_L_265 : KN RL 265 7 [.null, .int 0, .int 0, .int 0] := ⟨RJ4, TJ4, 4, tyJ4, rfl, i_J4, tyJ4_ok, tb 835 (by decide +kernel), tb 194 (by decide +kernel), tb 10 (by decide +kernel), by decide +kernel, rfl⟩
theorem km_L_339 : KM RL 339 Lib.Math.min.name Lib.Math.min.code .int := ⟨tb 1468 (by decide +kernel), tb 462 (by decide +kernel), tb 20 (by decide +kernel), tb 463 (by decide +kernel)⟩
theorem km_L_358 : KM RL 358 Lib.Math.max.name Lib.Math.max.code .int := ⟨tb 1527 (by decide +kernel), tb 320 (by decide +kernel), tb 20 (by decide +kernel), tb 321 (by decide +kernel)⟩
theorem aw_int : Cond.arrayClass .int ∈ lw_tbl := tb 78 (by decide +kernel)
theorem aw_long : Cond.arrayClass .long ∈ lw_tbl := tb 1573 (by decide +kernel)
theorem aw_char : Cond.arrayClass .char ∈ lw_tbl := tb 192 (by decide +kernel)
theorem aw_byte : Cond.arrayClass .byte ∈ lw_tbl := tb 225 (by decide +kernel)
theorem gs_ord : Cond.fieldLink RJx29ce0 7 "java/lang/Enum" "ordinal" "I" ∈ lw_tbl ∨ ∃ host, Cond.fieldLinkNest RJx29ce0 7 "java/lang/Enum" "ordinal" "I" host ∈ lw_tbl := Or.inl (tb 1608 (by decide +kernel))
def ths : List String := ["java/lang/RuntimeException", "java/lang/Exception"]
theorem tw_X8_289_293 : ∀ w ∈ Cond.classLink RX8 289 "java/lang/ArithmeticException" :: Cond.initialized "java/lang/ArithmeticException" :: vx_atS RX8 293 "java/lang/ArithmeticException" ths, w ∈ lw_tbl ∧ vx_ot w = true := by
  intro w hw
  have h : (Cond.classLink RX8 289 "java/lang/ArithmeticException" :: Cond.initialized "java/lang/ArithmeticException" :: vx_atS RX8 293 "java/lang/ArithmeticException" ths).all (fun w => tables_1.contains w && vx_ot w) = true := by decide +kernel
  have h1 := List.all_eq_true.mp h w hw
  rw [Bool.and_eq_true] at h1
  exact ⟨List.mem_append_right _ (List.contains_iff_mem.mp h1.1), h1.2⟩
theorem th_X8_289_291_293 : TH RX8 289 291 293 "java/lang/ArithmeticException" "there are no jets" ths := ⟨by decide +kernel, by decide +kernel, tb 1427 (by decide +kernel), tw_X8_289_293, by decide⟩
theorem th_X8_289_294_293 : TH RX8 289 294 293 "java/lang/ArithmeticException" "the demand is 0" ths := ⟨by decide +kernel, by decide +kernel, tb 1508 (by decide +kernel), tw_X8_289_293, by decide⟩
theorem tw_X8_305_309 : ∀ w ∈ Cond.classLink RX8 305 "java/lang/IndexOutOfBoundsException" :: Cond.initialized "java/lang/IndexOutOfBoundsException" :: vx_atS RX8 309 "java/lang/IndexOutOfBoundsException" ths, w ∈ lw_tbl ∧ vx_ot w = true := by
  intro w hw
  have h : (Cond.classLink RX8 305 "java/lang/IndexOutOfBoundsException" :: Cond.initialized "java/lang/IndexOutOfBoundsException" :: vx_atS RX8 309 "java/lang/IndexOutOfBoundsException" ths).all (fun w => tables_1.contains w && vx_ot w) = true := by decide +kernel
  have h1 := List.all_eq_true.mp h w hw
  rw [Bool.and_eq_true] at h1
  exact ⟨List.mem_append_right _ (List.contains_iff_mem.mp h1.1), h1.2⟩
theorem th_X8_305_307_309 : TH RX8 305 307 309 "java/lang/IndexOutOfBoundsException" "there is no such character" ths := ⟨by decide +kernel, by decide +kernel, tb 1299 (by decide +kernel), tw_X8_305_309, by decide⟩
theorem th_X8_305_370_309 : TH RX8 305 370 309 "java/lang/IndexOutOfBoundsException" "there is no such index" ths := ⟨by decide +kernel, by decide +kernel, tb 545 (by decide +kernel), tw_X8_305_309, by decide⟩
theorem th_X8_305_378_309 : TH RX8 305 378 309 "java/lang/IndexOutOfBoundsException" "there is no such jet" ths := ⟨by decide +kernel, by decide +kernel, tb 630 (by decide +kernel), tw_X8_305_309, by decide⟩
theorem th_X8_305_381_309 : TH RX8 305 381 309 "java/lang/IndexOutOfBoundsException" "there is no such figure" ths := ⟨by decide +kernel, by decide +kernel, tb 1219 (by decide +kernel), tw_X8_305_309, by decide⟩
theorem th_X8_305_387_309 : TH RX8 305 387 309 "java/lang/IndexOutOfBoundsException" "there is no such figure or step" ths := ⟨by decide +kernel, by decide +kernel, tb 771 (by decide +kernel), tw_X8_305_309, by decide⟩
theorem th_X8_305_389_309 : TH RX8 305 389 309 "java/lang/IndexOutOfBoundsException" "there is no such entry" ths := ⟨by decide +kernel, by decide +kernel, tb 819 (by decide +kernel), tw_X8_305_309, by decide⟩
theorem tw_X8_318_322 : ∀ w ∈ Cond.classLink RX8 318 "java/lang/IllegalStateException" :: Cond.initialized "java/lang/IllegalStateException" :: vx_atS RX8 322 "java/lang/IllegalStateException" ths, w ∈ lw_tbl ∧ vx_ot w = true := by
  intro w hw
  have h : (Cond.classLink RX8 318 "java/lang/IllegalStateException" :: Cond.initialized "java/lang/IllegalStateException" :: vx_atS RX8 322 "java/lang/IllegalStateException" ths).all (fun w => tables_1.contains w && vx_ot w) = true := by decide +kernel
  have h1 := List.all_eq_true.mp h w hw
  rw [Bool.and_eq_true] at h1
  exact ⟨List.mem_append_right _ (List.contains_iff_mem.mp h1.1), h1.2⟩
theorem th_X8_318_320_322 : TH RX8 318 320 322 "java/lang/IllegalStateException" "the input buffer is full" ths := ⟨by decide +kernel, by decide +kernel, tb 1084 (by decide +kernel), tw_X8_318_322, by decide⟩
theorem th_X8_318_351_322 : TH RX8 318 351 322 "java/lang/IllegalStateException" "there is no change to undo" ths := ⟨by decide +kernel, by decide +kernel, tb 1564 (by decide +kernel), tw_X8_318_322, by decide⟩
theorem th_X8_318_353_322 : TH RX8 318 353 322 "java/lang/IllegalStateException" "nothing was saved" ths := ⟨by decide +kernel, by decide +kernel, tb 1572 (by decide +kernel), tw_X8_318_322, by decide⟩
theorem th_X8_318_376_322 : TH RX8 318 376 322 "java/lang/IllegalStateException" "the state does not allow it" ths := ⟨by decide +kernel, by decide +kernel, tb 578 (by decide +kernel), tw_X8_318_322, by decide⟩
theorem tw_X8_331_335 : ∀ w ∈ Cond.classLink RX8 331 "java/lang/IllegalArgumentException" :: Cond.initialized "java/lang/IllegalArgumentException" :: vx_atS RX8 335 "java/lang/IllegalArgumentException" ths, w ∈ lw_tbl ∧ vx_ot w = true := by
  intro w hw
  have h : (Cond.classLink RX8 331 "java/lang/IllegalArgumentException" :: Cond.initialized "java/lang/IllegalArgumentException" :: vx_atS RX8 335 "java/lang/IllegalArgumentException" ths).all (fun w => tables_1.contains w && vx_ot w) = true := by decide +kernel
  have h1 := List.all_eq_true.mp h w hw
  rw [Bool.and_eq_true] at h1
  exact ⟨List.mem_append_right _ (List.contains_iff_mem.mp h1.1), h1.2⟩
theorem th_X8_331_333_335 : TH RX8 331 333 335 "java/lang/IllegalArgumentException" "the text is malformed" ths := ⟨by decide +kernel, by decide +kernel, tb 1141 (by decide +kernel), tw_X8_331_335, by decide⟩
theorem th_X8_331_372_335 : TH RX8 331 372 335 "java/lang/IllegalArgumentException" "a number is out of its range" ths := ⟨by decide +kernel, by decide +kernel, tb 552 (by decide +kernel), tw_X8_331_335, by decide⟩
theorem th_X8_331_391_335 : TH RX8 331 391 335 "java/lang/IllegalArgumentException" "a forecast is for 0 to 40 beats" ths := ⟨by decide +kernel, by decide +kernel, tb 390 (by decide +kernel), tw_X8_331_335, by decide⟩
theorem tw_X8_342_346 : ∀ w ∈ Cond.classLink RX8 342 "java/lang/UnsupportedOperationException" :: Cond.initialized "java/lang/UnsupportedOperationException" :: vx_atS RX8 346 "java/lang/UnsupportedOperationException" ths, w ∈ lw_tbl ∧ vx_ot w = true := by
  intro w hw
  have h : (Cond.classLink RX8 342 "java/lang/UnsupportedOperationException" :: Cond.initialized "java/lang/UnsupportedOperationException" :: vx_atS RX8 346 "java/lang/UnsupportedOperationException" ths).all (fun w => tables_1.contains w && vx_ot w) = true := by decide +kernel
  have h1 := List.all_eq_true.mp h w hw
  rw [Bool.and_eq_true] at h1
  exact ⟨List.mem_append_right _ (List.contains_iff_mem.mp h1.1), h1.2⟩
theorem th_X8_342_344_346 : TH RX8 342 344 346 "java/lang/UnsupportedOperationException" "a command failed" ths := ⟨by decide +kernel, by decide +kernel, tb 1179 (by decide +kernel), tw_X8_342_346, by decide⟩
theorem th_X8_342_374_346 : TH RX8 342 374 346 "java/lang/UnsupportedOperationException" "the position is taken" ths := ⟨by decide +kernel, by decide +kernel, tb 562 (by decide +kernel), tw_X8_342_346, by decide⟩
theorem kx_L_171 : KSX RL 171 mL_feed 2 := ⟨⟨_, _, rfl⟩, ⟨(tb 1073 (by decide +kernel)), (tb 1074 (by decide +kernel)), (tb 0 (by decide +kernel)), tb 1075 (by decide +kernel)⟩, ⟨by decide +kernel, by decide +kernel⟩, by decide +kernel, by decide⟩
theorem kx_L_174 : KSX RL 174 mL_execute 1 := ⟨⟨_, _, rfl⟩, ⟨(tb 1089 (by decide +kernel)), (tb 1090 (by decide +kernel)), (tb 0 (by decide +kernel)), tb 1091 (by decide +kernel)⟩, ⟨by decide +kernel, by decide +kernel⟩, by decide +kernel, by decide⟩
theorem kx_L_177 : KSX RL 177 mL_outputCharacter 2 := ⟨⟨_, _, rfl⟩, ⟨(tb 1292 (by decide +kernel)), (tb 1293 (by decide +kernel)), (tb 0 (by decide +kernel)), tb 1294 (by decide +kernel)⟩, ⟨by decide +kernel, by decide +kernel⟩, by decide +kernel, by decide⟩
theorem kx_L_195 : KSX RL 195 mL_demandAfter 2 := ⟨⟨_, _, rfl⟩, ⟨(tb 333 (by decide +kernel)), (tb 334 (by decide +kernel)), (tb 0 (by decide +kernel)), tb 335 (by decide +kernel)⟩, ⟨by decide +kernel, by decide +kernel⟩, by decide +kernel, by decide⟩
theorem kx_L_213 : KSX RL 213 mL_firstOverload 2 := ⟨⟨_, _, rfl⟩, ⟨(tb 464 (by decide +kernel)), (tb 465 (by decide +kernel)), (tb 0 (by decide +kernel)), tb 466 (by decide +kernel)⟩, ⟨by decide +kernel, by decide +kernel⟩, by decide +kernel, by decide⟩
theorem kx_L_236 : KSX RL 236 mL_addJet 2 := ⟨⟨_, _, rfl⟩, ⟨(tb 500 (by decide +kernel)), (tb 501 (by decide +kernel)), (tb 0 (by decide +kernel)), tb 502 (by decide +kernel)⟩, ⟨by decide +kernel, by decide +kernel⟩, by decide +kernel, by decide⟩
theorem kx_L_238 : KSX RL 238 mL_removeJet 2 := ⟨⟨_, _, rfl⟩, ⟨(tb 594 (by decide +kernel)), (tb 595 (by decide +kernel)), (tb 0 (by decide +kernel)), tb 596 (by decide +kernel)⟩, ⟨by decide +kernel, by decide +kernel⟩, by decide +kernel, by decide⟩
theorem kx_L_240 : KSX RL 240 mL_setOpening 3 := ⟨⟨_, _, rfl⟩, ⟨(tb 652 (by decide +kernel)), (tb 653 (by decide +kernel)), (tb 0 (by decide +kernel)), tb 654 (by decide +kernel)⟩, ⟨by decide +kernel, by decide +kernel⟩, by decide +kernel, by decide⟩
theorem kx_L_243 : KSX RL 243 mL_setCapacity 2 := ⟨⟨_, _, rfl⟩, ⟨(tb 670 (by decide +kernel)), (tb 671 (by decide +kernel)), (tb 0 (by decide +kernel)), tb 672 (by decide +kernel)⟩, ⟨by decide +kernel, by decide +kernel⟩, by decide +kernel, by decide⟩
theorem kx_L_245 : KSX RL 245 mL_setWind 2 := ⟨⟨_, _, rfl⟩, ⟨(tb 685 (by decide +kernel)), (tb 686 (by decide +kernel)), (tb 0 (by decide +kernel)), tb 687 (by decide +kernel)⟩, ⟨by decide +kernel, by decide +kernel⟩, by decide +kernel, by decide⟩
theorem kx_L_250 : KSX RL 250 mL_addFigure 1 := ⟨⟨_, _, rfl⟩, ⟨(tb 712 (by decide +kernel)), (tb 713 (by decide +kernel)), (tb 0 (by decide +kernel)), tb 714 (by decide +kernel)⟩, ⟨by decide +kernel, by decide +kernel⟩, by decide +kernel, by decide⟩
theorem kx_L_252 : KSX RL 252 mL_removeFigure 2 := ⟨⟨_, _, rfl⟩, ⟨(tb 729 (by decide +kernel)), (tb 730 (by decide +kernel)), (tb 0 (by decide +kernel)), tb 731 (by decide +kernel)⟩, ⟨by decide +kernel, by decide +kernel⟩, by decide +kernel, by decide⟩
theorem kx_L_254 : KSX RL 254 mL_removeStep 3 := ⟨⟨_, _, rfl⟩, ⟨(tb 755 (by decide +kernel)), (tb 756 (by decide +kernel)), (tb 0 (by decide +kernel)), tb 757 (by decide +kernel)⟩, ⟨by decide +kernel, by decide +kernel⟩, by decide +kernel, by decide⟩
theorem kx_L_256 : KSX RL 256 mL_addStep 5 := ⟨⟨_, _, rfl⟩, ⟨(tb 776 (by decide +kernel)), (tb 777 (by decide +kernel)), (tb 0 (by decide +kernel)), tb 778 (by decide +kernel)⟩, ⟨by decide +kernel, by decide +kernel⟩, by decide +kernel, by decide⟩
theorem kx_L_259 : KSX RL 259 mL_play 3 := ⟨⟨_, _, rfl⟩, ⟨(tb 793 (by decide +kernel)), (tb 794 (by decide +kernel)), (tb 0 (by decide +kernel)), tb 795 (by decide +kernel)⟩, ⟨by decide +kernel, by decide +kernel⟩, by decide +kernel, by decide⟩
theorem kx_L_261 : KSX RL 261 mL_cancel 2 := ⟨⟨_, _, rfl⟩, ⟨(tb 808 (by decide +kernel)), (tb 809 (by decide +kernel)), (tb 0 (by decide +kernel)), tb 810 (by decide +kernel)⟩, ⟨by decide +kernel, by decide +kernel⟩, by decide +kernel, by decide⟩
theorem kx_L_263 : KSX RL 263 mL_pass 2 := ⟨⟨_, _, rfl⟩, ⟨(tb 824 (by decide +kernel)), (tb 825 (by decide +kernel)), (tb 0 (by decide +kernel)), tb 826 (by decide +kernel)⟩, ⟨by decide +kernel, by decide +kernel⟩, by decide +kernel, by decide⟩
theorem kx_L_305 : KSX RL 305 mL_position 2 := ⟨⟨_, _, rfl⟩, ⟨(tb 1193 (by decide +kernel)), (tb 1194 (by decide +kernel)), (tb 0 (by decide +kernel)), tb 1195 (by decide +kernel)⟩, ⟨by decide +kernel, by decide +kernel⟩, by decide +kernel, by decide⟩
theorem kx_L_307 : KSX RL 307 mL_opening 2 := ⟨⟨_, _, rfl⟩, ⟨(tb 1200 (by decide +kernel)), (tb 1201 (by decide +kernel)), (tb 0 (by decide +kernel)), tb 1202 (by decide +kernel)⟩, ⟨by decide +kernel, by decide +kernel⟩, by decide +kernel, by decide⟩
theorem kx_L_309 : KSX RL 309 mL_writeFigure 2 := ⟨⟨_, _, rfl⟩, ⟨(tb 1207 (by decide +kernel)), (tb 1208 (by decide +kernel)), (tb 0 (by decide +kernel)), tb 1209 (by decide +kernel)⟩, ⟨by decide +kernel, by decide +kernel⟩, by decide +kernel, by decide⟩
theorem kx_L_313 : KSX RL 313 mL_entryStart 2 := ⟨⟨_, _, rfl⟩, ⟨(tb 1311 (by decide +kernel)), (tb 1312 (by decide +kernel)), (tb 0 (by decide +kernel)), tb 1313 (by decide +kernel)⟩, ⟨by decide +kernel, by decide +kernel⟩, by decide +kernel, by decide⟩
theorem kx_L_315 : KSX RL 315 mL_entryFigure 2 := ⟨⟨_, _, rfl⟩, ⟨(tb 1318 (by decide +kernel)), (tb 1319 (by decide +kernel)), (tb 0 (by decide +kernel)), tb 1320 (by decide +kernel)⟩, ⟨by decide +kernel, by decide +kernel⟩, by decide +kernel, by decide⟩
theorem kx_L_320 : KSX RL 320 mL_height 2 := ⟨⟨_, _, rfl⟩, ⟨(tb 1379 (by decide +kernel)), (tb 1380 (by decide +kernel)), (tb 0 (by decide +kernel)), tb 1381 (by decide +kernel)⟩, ⟨by decide +kernel, by decide +kernel⟩, by decide +kernel, by decide⟩
theorem kx_L_322 : KSX RL 322 mL_isWild 2 := ⟨⟨_, _, rfl⟩, ⟨(tb 1387 (by decide +kernel)), (tb 1388 (by decide +kernel)), (tb 0 (by decide +kernel)), tb 1389 (by decide +kernel)⟩, ⟨by decide +kernel, by decide +kernel⟩, by decide +kernel, by decide⟩
theorem kx_L_324 : KSX RL 324 mL_landing 2 := ⟨⟨_, _, rfl⟩, ⟨(tb 1396 (by decide +kernel)), (tb 1397 (by decide +kernel)), (tb 0 (by decide +kernel)), tb 1398 (by decide +kernel)⟩, ⟨by decide +kernel, by decide +kernel⟩, by decide +kernel, by decide⟩
theorem kx_L_326 : KSX RL 326 mL_jetByPosition 2 := ⟨⟨_, _, rfl⟩, ⟨(tb 1403 (by decide +kernel)), (tb 1404 (by decide +kernel)), (tb 0 (by decide +kernel)), tb 1405 (by decide +kernel)⟩, ⟨by decide +kernel, by decide +kernel⟩, by decide +kernel, by decide⟩
theorem kx_L_328 : KSX RL 328 mL_highestJet 1 := ⟨⟨_, _, rfl⟩, ⟨(tb 1416 (by decide +kernel)), (tb 1417 (by decide +kernel)), (tb 0 (by decide +kernel)), tb 1418 (by decide +kernel)⟩, ⟨by decide +kernel, by decide +kernel⟩, by decide +kernel, by decide⟩
theorem kx_L_330 : KSX RL 330 mL_nearestLanding 2 := ⟨⟨_, _, rfl⟩, ⟨(tb 1432 (by decide +kernel)), (tb 1433 (by decide +kernel)), (tb 0 (by decide +kernel)), tb 1434 (by decide +kernel)⟩, ⟨by decide +kernel, by decide +kernel⟩, by decide +kernel, by decide⟩
theorem kx_L_337 : KSX RL 337 mL_figuresUsing 2 := ⟨⟨_, _, rfl⟩, ⟨(tb 1453 (by decide +kernel)), (tb 1454 (by decide +kernel)), (tb 0 (by decide +kernel)), tb 1455 (by decide +kernel)⟩, ⟨by decide +kernel, by decide +kernel⟩, by decide +kernel, by decide⟩
theorem kx_L_348 : KSX RL 348 mL_meanOpening 1 := ⟨⟨_, _, rfl⟩, ⟨(tb 1477 (by decide +kernel)), (tb 1478 (by decide +kernel)), (tb 0 (by decide +kernel)), tb 1479 (by decide +kernel)⟩, ⟨by decide +kernel, by decide +kernel⟩, by decide +kernel, by decide⟩
theorem kx_L_351 : KSX RL 351 mL_supplyFraction 1 := ⟨⟨_, _, rfl⟩, ⟨(tb 1501 (by decide +kernel)), (tb 1502 (by decide +kernel)), (tb 0 (by decide +kernel)), tb 1503 (by decide +kernel)⟩, ⟨by decide +kernel, by decide +kernel⟩, by decide +kernel, by decide⟩
theorem kx_L_354 : KSX RL 354 mL_stepCount 2 := ⟨⟨_, _, rfl⟩, ⟨(tb 1513 (by decide +kernel)), (tb 1514 (by decide +kernel)), (tb 0 (by decide +kernel)), tb 1515 (by decide +kernel)⟩, ⟨by decide +kernel, by decide +kernel⟩, by decide +kernel, by decide⟩
theorem kx_L_356 : KSX RL 356 mL_stepDelay 3 := ⟨⟨_, _, rfl⟩, ⟨(tb 1520 (by decide +kernel)), (tb 1521 (by decide +kernel)), (tb 0 (by decide +kernel)), tb 1522 (by decide +kernel)⟩, ⟨by decide +kernel, by decide +kernel⟩, by decide +kernel, by decide⟩
theorem kx_L_361 : KSX RL 361 mL_stepJet 3 := ⟨⟨_, _, rfl⟩, ⟨(tb 1528 (by decide +kernel)), (tb 1529 (by decide +kernel)), (tb 0 (by decide +kernel)), tb 1530 (by decide +kernel)⟩, ⟨by decide +kernel, by decide +kernel⟩, by decide +kernel, by decide⟩
theorem kx_L_363 : KSX RL 363 mL_stepOpening 3 := ⟨⟨_, _, rfl⟩, ⟨(tb 1535 (by decide +kernel)), (tb 1536 (by decide +kernel)), (tb 0 (by decide +kernel)), tb 1537 (by decide +kernel)⟩, ⟨by decide +kernel, by decide +kernel⟩, by decide +kernel, by decide⟩
theorem kx_L_365 : KSX RL 365 mL_figureLength 2 := ⟨⟨_, _, rfl⟩, ⟨(tb 1542 (by decide +kernel)), (tb 1543 (by decide +kernel)), (tb 0 (by decide +kernel)), tb 1544 (by decide +kernel)⟩, ⟨by decide +kernel, by decide +kernel⟩, by decide +kernel, by decide⟩
theorem kx_L_367 : KSX RL 367 mL_demandAfterBySteps 2 := ⟨⟨_, _, rfl⟩, ⟨(tb 1328 (by decide +kernel)), (tb 1329 (by decide +kernel)), (tb 0 (by decide +kernel)), tb 1330 (by decide +kernel)⟩, ⟨by decide +kernel, by decide +kernel⟩, by decide +kernel, by decide⟩
theorem kx_L_384 : KSX RL 384 mL_undo 1 := ⟨⟨_, _, rfl⟩, ⟨(tb 1557 (by decide +kernel)), (tb 1558 (by decide +kernel)), (tb 0 (by decide +kernel)), tb 1559 (by decide +kernel)⟩, ⟨by decide +kernel, by decide +kernel⟩, by decide +kernel, by decide⟩
theorem kx_L_386 : KSX RL 386 mL_restore 1 := ⟨⟨_, _, rfl⟩, ⟨(tb 1565 (by decide +kernel)), (tb 1566 (by decide +kernel)), (tb 0 (by decide +kernel)), tb 1567 (by decide +kernel)⟩, ⟨by decide +kernel, by decide +kernel⟩, by decide +kernel, by decide⟩
