/-! What the tables say of each field access, call and throw, by their places. -/
theorem tb {w : Cond} (i : Nat) (h : tables_1[i]? = some w) : w ∈ lw_tbl := List.mem_append_right _ (List.mem_of_getElem? h)
theorem tp {w : Cond} (i : Nat) (h : (k2_sels lw_privs)[i]? = some w) : w ∈ lw_tbl := List.mem_append_left _ (List.mem_of_getElem? h)
theorem i_X2 : ∀ w ∈ u_ws RX2 TX2 5, w ∈ lw_tbl := by
  intro w hw
  have h : w ∈ [99, 101, 103, 105, 107].filterMap (fun i => tables_1[i]?) := by
    rw [show [99, 101, 103, 105, 107].filterMap (fun i => tables_1[i]?) = u_ws RX2 TX2 5 from by decide +kernel]
    exact hw
  obtain ⟨i, -, hi⟩ := List.mem_filterMap.mp h
  exact tb i hi
theorem fq_0_4 : ∀ T : u_T, (∃ (C : String) (N : Nat), cls[0]? = some (C, T, N)) → (T 4).2.2.2 = false := fun T h => by obtain ⟨C, N, h⟩ := h; cases h; rfl
theorem i_X3 : ∀ w ∈ u_ws RX3 TX3 5, w ∈ lw_tbl := by
  intro w hw
  have h : w ∈ [67, 69, 71, 73, 75].filterMap (fun i => tables_1[i]?) := by
    rw [show [67, 69, 71, 73, 75].filterMap (fun i => tables_1[i]?) = u_ws RX3 TX3 5 from by decide +kernel]
    exact hw
  obtain ⟨i, -, hi⟩ := List.mem_filterMap.mp h
  exact tb i hi
theorem fq_1_2 : ∀ T : u_T, (∃ (C : String) (N : Nat), cls[1]? = some (C, T, N)) → (T 2).2.2.2 = false := fun T h => by obtain ⟨C, N, h⟩ := h; cases h; rfl
theorem fq_1_3 : ∀ T : u_T, (∃ (C : String) (N : Nat), cls[1]? = some (C, T, N)) → (T 3).2.2.2 = false := fun T h => by obtain ⟨C, N, h⟩ := h; cases h; rfl
theorem fq_1_4 : ∀ T : u_T, (∃ (C : String) (N : Nat), cls[1]? = some (C, T, N)) → (T 4).2.2.2 = false := fun T h => by obtain ⟨C, N, h⟩ := h; cases h; rfl
theorem i_X4 : ∀ w ∈ u_ws RX4 TX4 2, w ∈ lw_tbl := by
  intro w hw
  have h : w ∈ [152, 154].filterMap (fun i => tables_1[i]?) := by
    rw [show [152, 154].filterMap (fun i => tables_1[i]?) = u_ws RX4 TX4 2 from by decide +kernel]
    exact hw
  obtain ⟨i, -, hi⟩ := List.mem_filterMap.mp h
  exact tb i hi
theorem i_X6 : ∀ w ∈ u_ws RX6 TX6 7, w ∈ lw_tbl := by
  intro w hw
  have h : w ∈ [177, 179, 181, 183, 185, 187, 189].filterMap (fun i => tables_1[i]?) := by
    rw [show [177, 179, 181, 183, 185, 187, 189].filterMap (fun i => tables_1[i]?) = u_ws RX6 TX6 7 from by decide +kernel]
    exact hw
  obtain ⟨i, -, hi⟩ := List.mem_filterMap.mp h
  exact tb i hi
theorem fq_3_1 : ∀ T : u_T, (∃ (C : String) (N : Nat), cls[3]? = some (C, T, N)) → (T 1).2.2.2 = false := fun T h => by obtain ⟨C, N, h⟩ := h; cases h; rfl
theorem fq_3_2 : ∀ T : u_T, (∃ (C : String) (N : Nat), cls[3]? = some (C, T, N)) → (T 2).2.2.2 = false := fun T h => by obtain ⟨C, N, h⟩ := h; cases h; rfl
theorem fq_3_3 : ∀ T : u_T, (∃ (C : String) (N : Nat), cls[3]? = some (C, T, N)) → (T 3).2.2.2 = false := fun T h => by obtain ⟨C, N, h⟩ := h; cases h; rfl
theorem fq_3_4 : ∀ T : u_T, (∃ (C : String) (N : Nat), cls[3]? = some (C, T, N)) → (T 4).2.2.2 = false := fun T h => by obtain ⟨C, N, h⟩ := h; cases h; rfl
theorem fq_3_6 : ∀ T : u_T, (∃ (C : String) (N : Nat), cls[3]? = some (C, T, N)) → (T 6).2.2.2 = false := fun T h => by obtain ⟨C, N, h⟩ := h; cases h; rfl
theorem i_X7 : ∀ w ∈ u_ws RX7 TX7 8, w ∈ lw_tbl := by
  intro w hw
  have h : w ∈ [126, 128, 130, 132, 134, 136, 138, 140].filterMap (fun i => tables_1[i]?) := by
    rw [show [126, 128, 130, 132, 134, 136, 138, 140].filterMap (fun i => tables_1[i]?) = u_ws RX7 TX7 8 from by decide +kernel]
    exact hw
  obtain ⟨i, -, hi⟩ := List.mem_filterMap.mp h
  exact tb i hi
theorem fq_4_4 : ∀ T : u_T, (∃ (C : String) (N : Nat), cls[4]? = some (C, T, N)) → (T 4).2.2.2 = false := fun T h => by obtain ⟨C, N, h⟩ := h; cases h; rfl
theorem fq_4_5 : ∀ T : u_T, (∃ (C : String) (N : Nat), cls[4]? = some (C, T, N)) → (T 5).2.2.2 = false := fun T h => by obtain ⟨C, N, h⟩ := h; cases h; rfl
theorem fq_4_6 : ∀ T : u_T, (∃ (C : String) (N : Nat), cls[4]? = some (C, T, N)) → (T 6).2.2.2 = false := fun T h => by obtain ⟨C, N, h⟩ := h; cases h; rfl
theorem fq_4_7 : ∀ T : u_T, (∃ (C : String) (N : Nat), cls[4]? = some (C, T, N)) → (T 7).2.2.2 = false := fun T h => by obtain ⟨C, N, h⟩ := h; cases h; rfl
theorem i_X8 : ∀ w ∈ u_ws RX8 TX8 12, w ∈ lw_tbl := by
  intro w hw
  have h : w ∈ [238, 240, 242, 244, 246, 248, 250, 252, 254, 256, 258, 260].filterMap (fun i => tables_1[i]?) := by
    rw [show [238, 240, 242, 244, 246, 248, 250, 252, 254, 256, 258, 260].filterMap (fun i => tables_1[i]?) = u_ws RX8 TX8 12 from by decide +kernel]
    exact hw
  obtain ⟨i, -, hi⟩ := List.mem_filterMap.mp h
  exact tb i hi
theorem fq_5_3 : ∀ T : u_T, (∃ (C : String) (N : Nat), cls[5]? = some (C, T, N)) → (T 3).2.2.2 = false := fun T h => by obtain ⟨C, N, h⟩ := h; cases h; rfl
theorem fq_5_5 : ∀ T : u_T, (∃ (C : String) (N : Nat), cls[5]? = some (C, T, N)) → (T 5).2.2.2 = false := fun T h => by obtain ⟨C, N, h⟩ := h; cases h; rfl
theorem fq_5_6 : ∀ T : u_T, (∃ (C : String) (N : Nat), cls[5]? = some (C, T, N)) → (T 6).2.2.2 = false := fun T h => by obtain ⟨C, N, h⟩ := h; cases h; rfl
theorem fq_5_10 : ∀ T : u_T, (∃ (C : String) (N : Nat), cls[5]? = some (C, T, N)) → (T 10).2.2.2 = false := fun T h => by obtain ⟨C, N, h⟩ := h; cases h; rfl
theorem fq_5_11 : ∀ T : u_T, (∃ (C : String) (N : Nat), cls[5]? = some (C, T, N)) → (T 11).2.2.2 = false := fun T h => by obtain ⟨C, N, h⟩ := h; cases h; rfl
theorem fl_X8_10 : FL RX8 10 5 0 := ⟨RX8, TX8, 12, rfl, by decide, i_X8, Or.inl (tb 226 (by decide +kernel))⟩
theorem fp_X8_10 : FP RX8 10 5 0 (.object "FountainShow$Stage") := ⟨RX8, TX8, 12, tyX8, rfl, by decide, i_X8, tyX8_ok, nmX8, by decide +kernel, Or.inr ⟨rfl, rfl, (tb 226 (by decide +kernel))⟩⟩
theorem fl_X8_16 : FL RX8 16 5 1 := ⟨RX8, TX8, 12, rfl, by decide, i_X8, Or.inl (tb 227 (by decide +kernel))⟩
theorem fp_X8_16 : FP RX8 16 5 1 (.object "FountainShow$Stage") := ⟨RX8, TX8, 12, tyX8, rfl, by decide, i_X8, tyX8_ok, nmX8, by decide +kernel, Or.inr ⟨rfl, rfl, (tb 227 (by decide +kernel))⟩⟩
theorem fl_X8_19 : FL RX8 19 5 2 := ⟨RX8, TX8, 12, rfl, by decide, i_X8, Or.inl (tb 228 (by decide +kernel))⟩
theorem fp_X8_19 : FP RX8 19 5 2 (.object "FountainShow$Stage") := ⟨RX8, TX8, 12, tyX8, rfl, by decide, i_X8, tyX8_ok, nmX8, by decide +kernel, Or.inr ⟨rfl, rfl, (tb 228 (by decide +kernel))⟩⟩
theorem fl_X8_22 : FL RX8 22 5 3 := ⟨RX8, TX8, 12, rfl, by decide, i_X8, Or.inl (tb 229 (by decide +kernel))⟩
theorem fp_X8_22 : FP RX8 22 5 3 .boolean := ⟨RX8, TX8, 12, tyX8, rfl, by decide, i_X8, tyX8_ok, nmX8, by decide +kernel, Or.inl ⟨rfl, Or.inl (tb 229 (by decide +kernel))⟩⟩
theorem fl_X8_26 : FL RX8 26 5 4 := ⟨RX8, TX8, 12, rfl, by decide, i_X8, Or.inl (tb 230 (by decide +kernel))⟩
theorem fp_X8_26 : FP RX8 26 5 4 (.array (.object "FountainShow$Stage")) := ⟨RX8, TX8, 12, tyX8, rfl, by decide, i_X8, tyX8_ok, nmX8, by decide +kernel, Or.inr ⟨rfl, rfl, (tb 230 (by decide +kernel))⟩⟩
theorem fl_X8_30 : FL RX8 30 5 5 := ⟨RX8, TX8, 12, rfl, by decide, i_X8, Or.inl (tb 231 (by decide +kernel))⟩
theorem fp_X8_30 : FP RX8 30 5 5 .int := ⟨RX8, TX8, 12, tyX8, rfl, by decide, i_X8, tyX8_ok, nmX8, by decide +kernel, Or.inl ⟨rfl, Or.inl (tb 231 (by decide +kernel))⟩⟩
theorem fl_X8_34 : FL RX8 34 5 6 := ⟨RX8, TX8, 12, rfl, by decide, i_X8, Or.inl (tb 232 (by decide +kernel))⟩
theorem fp_X8_34 : FP RX8 34 5 6 .int := ⟨RX8, TX8, 12, tyX8, rfl, by decide, i_X8, tyX8_ok, nmX8, by decide +kernel, Or.inl ⟨rfl, Or.inl (tb 232 (by decide +kernel))⟩⟩
theorem fl_X8_40 : FL RX8 40 5 7 := ⟨RX8, TX8, 12, rfl, by decide, i_X8, Or.inl (tb 233 (by decide +kernel))⟩
theorem fp_X8_40 : FP RX8 40 5 7 (.object "FountainShow$LandingSorter") := ⟨RX8, TX8, 12, tyX8, rfl, by decide, i_X8, tyX8_ok, nmX8, by decide +kernel, Or.inr ⟨rfl, rfl, (tb 233 (by decide +kernel))⟩⟩
theorem fl_X8_47 : FL RX8 47 5 8 := ⟨RX8, TX8, 12, rfl, by decide, i_X8, Or.inl (tb 234 (by decide +kernel))⟩
theorem fp_X8_47 : FP RX8 47 5 8 (.object "FountainShow$Script") := ⟨RX8, TX8, 12, tyX8, rfl, by decide, i_X8, tyX8_ok, nmX8, by decide +kernel, Or.inr ⟨rfl, rfl, (tb 234 (by decide +kernel))⟩⟩
theorem fl_X8_54 : FL RX8 54 5 9 := ⟨RX8, TX8, 12, rfl, by decide, i_X8, Or.inl (tb 235 (by decide +kernel))⟩
theorem fp_X8_54 : FP RX8 54 5 9 (.object "java/lang/StringBuilder") := ⟨RX8, TX8, 12, tyX8, rfl, by decide, i_X8, tyX8_ok, nmX8, by decide +kernel, Or.inr ⟨rfl, rfl, (tb 235 (by decide +kernel))⟩⟩
theorem fl_X8_58 : FL RX8 58 5 10 := ⟨RX8, TX8, 12, rfl, by decide, i_X8, Or.inl (tb 236 (by decide +kernel))⟩
theorem fp_X8_58 : FP RX8 58 5 10 .int := ⟨RX8, TX8, 12, tyX8, rfl, by decide, i_X8, tyX8_ok, nmX8, by decide +kernel, Or.inl ⟨rfl, Or.inl (tb 236 (by decide +kernel))⟩⟩
theorem fl_X8_61 : FL RX8 61 5 11 := ⟨RX8, TX8, 12, rfl, by decide, i_X8, Or.inl (tb 237 (by decide +kernel))⟩
theorem fp_X8_61 : FP RX8 61 5 11 .int := ⟨RX8, TX8, 12, tyX8, rfl, by decide, i_X8, tyX8_ok, nmX8, by decide +kernel, Or.inl ⟨rfl, Or.inl (tb 237 (by decide +kernel))⟩⟩
theorem fl_X8_64 : FL RX8 64 4 0 := ⟨RX7, TX7, 8, rfl, by decide, i_X7, Or.inr ⟨"FountainShow", tb 111 (by decide +kernel)⟩⟩
theorem fl_X8_100 : FL RX8 100 1 2 := ⟨RX3, TX3, 5, rfl, by decide, i_X3, Or.inr ⟨"FountainShow", tb 61 (by decide +kernel)⟩⟩
theorem fp_X8_100 : FP RX8 100 1 2 .int := ⟨RX3, TX3, 5, tyX3, rfl, by decide, i_X3, tyX3_ok, nmX3, by decide +kernel, Or.inl ⟨rfl, Or.inr ⟨"FountainShow", tb 61 (by decide +kernel)⟩⟩⟩
theorem fl_X8_103 : FL RX8 103 1 0 := ⟨RX3, TX3, 5, rfl, by decide, i_X3, Or.inr ⟨"FountainShow", tb 55 (by decide +kernel)⟩⟩
theorem fl_X8_107 : FL RX8 107 1 1 := ⟨RX3, TX3, 5, rfl, by decide, i_X3, Or.inr ⟨"FountainShow", tb 57 (by decide +kernel)⟩⟩
theorem fl_X8_171 : FL RX8 171 1 3 := ⟨RX3, TX3, 5, rfl, by decide, i_X3, Or.inr ⟨"FountainShow", tb 64 (by decide +kernel)⟩⟩
theorem fp_X8_171 : FP RX8 171 1 3 .int := ⟨RX3, TX3, 5, tyX3, rfl, by decide, i_X3, tyX3_ok, nmX3, by decide +kernel, Or.inl ⟨rfl, Or.inr ⟨"FountainShow", tb 64 (by decide +kernel)⟩⟩⟩
theorem fl_X8_174 : FL RX8 174 1 4 := ⟨RX3, TX3, 5, rfl, by decide, i_X3, Or.inr ⟨"FountainShow", tb 66 (by decide +kernel)⟩⟩
theorem fp_X8_174 : FP RX8 174 1 4 .int := ⟨RX3, TX3, 5, tyX3, rfl, by decide, i_X3, tyX3_ok, nmX3, by decide +kernel, Or.inl ⟨rfl, Or.inr ⟨"FountainShow", tb 66 (by decide +kernel)⟩⟩⟩
theorem fl_X8_180 : FL RX8 180 4 6 := ⟨RX7, TX7, 8, rfl, by decide, i_X7, Or.inr ⟨"FountainShow", tb 123 (by decide +kernel)⟩⟩
theorem fp_X8_180 : FP RX8 180 4 6 .long := ⟨RX7, TX7, 8, tyX7, rfl, by decide, i_X7, tyX7_ok, nmX7, by decide +kernel, Or.inl ⟨rfl, Or.inr ⟨"FountainShow", tb 123 (by decide +kernel)⟩⟩⟩
theorem fl_X8_184 : FL RX8 184 4 7 := ⟨RX7, TX7, 8, rfl, by decide, i_X7, Or.inr ⟨"FountainShow", tb 125 (by decide +kernel)⟩⟩
theorem fp_X8_184 : FP RX8 184 4 7 .long := ⟨RX7, TX7, 8, tyX7, rfl, by decide, i_X7, tyX7_ok, nmX7, by decide +kernel, Or.inl ⟨rfl, Or.inr ⟨"FountainShow", tb 125 (by decide +kernel)⟩⟩⟩
theorem fl_X8_187 : FL RX8 187 4 1 := ⟨RX7, TX7, 8, rfl, by decide, i_X7, Or.inr ⟨"FountainShow", tb 113 (by decide +kernel)⟩⟩
theorem fl_X8_219 : FL RX8 219 0 4 := ⟨RX2, TX2, 5, rfl, by decide, i_X2, Or.inr ⟨"FountainShow", tb 98 (by decide +kernel)⟩⟩
theorem fp_X8_219 : FP RX8 219 0 4 .int := ⟨RX2, TX2, 5, tyX2, rfl, by decide, i_X2, tyX2_ok, nmX2, by decide +kernel, Or.inl ⟨rfl, Or.inr ⟨"FountainShow", tb 98 (by decide +kernel)⟩⟩⟩
theorem fl_X8_223 : FL RX8 223 0 0 := ⟨RX2, TX2, 5, rfl, by decide, i_X2, Or.inr ⟨"FountainShow", tb 87 (by decide +kernel)⟩⟩
theorem fl_X8_226 : FL RX8 226 0 1 := ⟨RX2, TX2, 5, rfl, by decide, i_X2, Or.inr ⟨"FountainShow", tb 90 (by decide +kernel)⟩⟩
theorem fl_X8_232 : FL RX8 232 0 2 := ⟨RX2, TX2, 5, rfl, by decide, i_X2, Or.inr ⟨"FountainShow", tb 93 (by decide +kernel)⟩⟩
theorem fl_X8_234 : FL RX8 234 0 3 := ⟨RX2, TX2, 5, rfl, by decide, i_X2, Or.inr ⟨"FountainShow", tb 96 (by decide +kernel)⟩⟩
theorem fl_X8_259 : FL RX8 259 4 5 := ⟨RX7, TX7, 8, rfl, by decide, i_X7, Or.inr ⟨"FountainShow", tb 121 (by decide +kernel)⟩⟩
theorem fp_X8_259 : FP RX8 259 4 5 .int := ⟨RX7, TX7, 8, tyX7, rfl, by decide, i_X7, tyX7_ok, nmX7, by decide +kernel, Or.inl ⟨rfl, Or.inr ⟨"FountainShow", tb 121 (by decide +kernel)⟩⟩⟩
theorem fl_X8_262 : FL RX8 262 4 4 := ⟨RX7, TX7, 8, rfl, by decide, i_X7, Or.inr ⟨"FountainShow", tb 119 (by decide +kernel)⟩⟩
theorem fp_X8_262 : FP RX8 262 4 4 .int := ⟨RX7, TX7, 8, tyX7, rfl, by decide, i_X7, tyX7_ok, nmX7, by decide +kernel, Or.inl ⟨rfl, Or.inr ⟨"FountainShow", tb 119 (by decide +kernel)⟩⟩⟩
theorem fl_X8_265 : FL RX8 265 4 2 := ⟨RX7, TX7, 8, rfl, by decide, i_X7, Or.inr ⟨"FountainShow", tb 115 (by decide +kernel)⟩⟩
theorem fl_X8_268 : FL RX8 268 4 3 := ⟨RX7, TX7, 8, rfl, by decide, i_X7, Or.inr ⟨"FountainShow", tb 117 (by decide +kernel)⟩⟩
theorem fl_X8_329 : FL RX8 329 3 1 := ⟨RX6, TX6, 7, rfl, by decide, i_X6, Or.inr ⟨"FountainShow", tb 167 (by decide +kernel)⟩⟩
theorem fp_X8_329 : FP RX8 329 3 1 .int := ⟨RX6, TX6, 7, tyX6, rfl, by decide, i_X6, tyX6_ok, nmX6, by decide +kernel, Or.inl ⟨rfl, Or.inr ⟨"FountainShow", tb 167 (by decide +kernel)⟩⟩⟩
theorem fl_X8_339 : FL RX8 339 3 3 := ⟨RX6, TX6, 7, rfl, by decide, i_X6, Or.inr ⟨"FountainShow", tb 171 (by decide +kernel)⟩⟩
theorem fp_X8_339 : FP RX8 339 3 3 .int := ⟨RX6, TX6, 7, tyX6, rfl, by decide, i_X6, tyX6_ok, nmX6, by decide +kernel, Or.inl ⟨rfl, Or.inr ⟨"FountainShow", tb 171 (by decide +kernel)⟩⟩⟩
theorem fl_X8_399 : FL RX8 399 3 2 := ⟨RX6, TX6, 7, rfl, by decide, i_X6, Or.inr ⟨"FountainShow", tb 169 (by decide +kernel)⟩⟩
theorem fp_X8_399 : FP RX8 399 3 2 .int := ⟨RX6, TX6, 7, tyX6, rfl, by decide, i_X6, tyX6_ok, nmX6, by decide +kernel, Or.inl ⟨rfl, Or.inr ⟨"FountainShow", tb 169 (by decide +kernel)⟩⟩⟩
theorem fl_X8_405 : FL RX8 405 3 4 := ⟨RX6, TX6, 7, rfl, by decide, i_X6, Or.inr ⟨"FountainShow", tb 173 (by decide +kernel)⟩⟩
theorem fp_X8_405 : FP RX8 405 3 4 (.object "FountainShow$Command") := ⟨RX6, TX6, 7, tyX6, rfl, by decide, i_X6, tyX6_ok, nmX6, by decide +kernel, Or.inl ⟨rfl, Or.inr ⟨"FountainShow", tb 173 (by decide +kernel)⟩⟩⟩
theorem fl_X8_409 : FL RX8 409 3 5 := ⟨RX6, TX6, 7, rfl, by decide, i_X6, Or.inr ⟨"FountainShow", tb 175 (by decide +kernel)⟩⟩
theorem fl_X2_9 : FL RX2 9 0 0 := ⟨RX2, TX2, 5, rfl, by decide, i_X2, Or.inl (tb 85 (by decide +kernel))⟩
theorem fp_X2_9 : FP RX2 9 0 0 (.array .int) := ⟨RX2, TX2, 5, tyX2, rfl, by decide, i_X2, tyX2_ok, nmX2, by decide +kernel, Or.inr ⟨rfl, rfl, (tb 85 (by decide +kernel))⟩⟩
theorem fl_X2_15 : FL RX2 15 0 1 := ⟨RX2, TX2, 5, rfl, by decide, i_X2, Or.inl (tb 88 (by decide +kernel))⟩
theorem fp_X2_15 : FP RX2 15 0 1 (.array .int) := ⟨RX2, TX2, 5, tyX2, rfl, by decide, i_X2, tyX2_ok, nmX2, by decide +kernel, Or.inr ⟨rfl, rfl, (tb 88 (by decide +kernel))⟩⟩
theorem fl_X2_18 : FL RX2 18 0 2 := ⟨RX2, TX2, 5, rfl, by decide, i_X2, Or.inl (tb 91 (by decide +kernel))⟩
theorem fp_X2_18 : FP RX2 18 0 2 (.array .int) := ⟨RX2, TX2, 5, tyX2, rfl, by decide, i_X2, tyX2_ok, nmX2, by decide +kernel, Or.inr ⟨rfl, rfl, (tb 91 (by decide +kernel))⟩⟩
theorem fl_X2_21 : FL RX2 21 0 3 := ⟨RX2, TX2, 5, rfl, by decide, i_X2, Or.inl (tb 94 (by decide +kernel))⟩
theorem fp_X2_21 : FP RX2 21 0 3 (.array .int) := ⟨RX2, TX2, 5, tyX2, rfl, by decide, i_X2, tyX2_ok, nmX2, by decide +kernel, Or.inr ⟨rfl, rfl, (tb 94 (by decide +kernel))⟩⟩
theorem fl_X2_24 : FL RX2 24 0 4 := ⟨RX2, TX2, 5, rfl, by decide, i_X2, Or.inl (tb 97 (by decide +kernel))⟩
theorem fp_X2_24 : FP RX2 24 0 4 .int := ⟨RX2, TX2, 5, tyX2, rfl, by decide, i_X2, tyX2_ok, nmX2, by decide +kernel, Or.inl ⟨rfl, Or.inl (tb 97 (by decide +kernel))⟩⟩
theorem fl_X3_9 : FL RX3 9 1 0 := ⟨RX3, TX3, 5, rfl, by decide, i_X3, Or.inl (tb 54 (by decide +kernel))⟩
theorem fp_X3_9 : FP RX3 9 1 0 (.array .int) := ⟨RX3, TX3, 5, tyX3, rfl, by decide, i_X3, tyX3_ok, nmX3, by decide +kernel, Or.inr ⟨rfl, rfl, (tb 54 (by decide +kernel))⟩⟩
theorem fl_X3_15 : FL RX3 15 1 1 := ⟨RX3, TX3, 5, rfl, by decide, i_X3, Or.inl (tb 56 (by decide +kernel))⟩
theorem fp_X3_15 : FP RX3 15 1 1 (.array .int) := ⟨RX3, TX3, 5, tyX3, rfl, by decide, i_X3, tyX3_ok, nmX3, by decide +kernel, Or.inr ⟨rfl, rfl, (tb 56 (by decide +kernel))⟩⟩
theorem fl_X3_18 : FL RX3 18 1 2 := ⟨RX3, TX3, 5, rfl, by decide, i_X3, Or.inl (tb 59 (by decide +kernel))⟩
theorem fp_X3_18 : FP RX3 18 1 2 .int := ⟨RX3, TX3, 5, tyX3, rfl, by decide, i_X3, tyX3_ok, nmX3, by decide +kernel, Or.inl ⟨rfl, Or.inl (tb 59 (by decide +kernel))⟩⟩
theorem fl_X3_22 : FL RX3 22 1 3 := ⟨RX3, TX3, 5, rfl, by decide, i_X3, Or.inl (tb 63 (by decide +kernel))⟩
theorem fp_X3_22 : FP RX3 22 1 3 .int := ⟨RX3, TX3, 5, tyX3, rfl, by decide, i_X3, tyX3_ok, nmX3, by decide +kernel, Or.inl ⟨rfl, Or.inl (tb 63 (by decide +kernel))⟩⟩
theorem fl_X3_25 : FL RX3 25 1 4 := ⟨RX3, TX3, 5, rfl, by decide, i_X3, Or.inl (tb 65 (by decide +kernel))⟩
theorem fp_X3_25 : FP RX3 25 1 4 .int := ⟨RX3, TX3, 5, tyX3, rfl, by decide, i_X3, tyX3_ok, nmX3, by decide +kernel, Or.inl ⟨rfl, Or.inl (tb 65 (by decide +kernel))⟩⟩
theorem fl_X4_9 : FL RX4 9 2 0 := ⟨RX4, TX4, 2, rfl, by decide, i_X4, Or.inl (tb 150 (by decide +kernel))⟩
theorem fp_X4_9 : FP RX4 9 2 0 (.array .int) := ⟨RX4, TX4, 2, tyX4, rfl, by decide, i_X4, tyX4_ok, nmX4, by decide +kernel, Or.inr ⟨rfl, rfl, (tb 150 (by decide +kernel))⟩⟩
theorem fl_X4_15 : FL RX4 15 2 1 := ⟨RX4, TX4, 2, rfl, by decide, i_X4, Or.inl (tb 151 (by decide +kernel))⟩
theorem fp_X4_15 : FP RX4 15 2 1 (.array .int) := ⟨RX4, TX4, 2, tyX4, rfl, by decide, i_X4, tyX4_ok, nmX4, by decide +kernel, Or.inr ⟨rfl, rfl, (tb 151 (by decide +kernel))⟩⟩
theorem fl_X4_22 : FL RX4 22 1 2 := ⟨RX3, TX3, 5, rfl, by decide, i_X3, Or.inr ⟨"FountainShow", tb 60 (by decide +kernel)⟩⟩
theorem fp_X4_22 : FP RX4 22 1 2 .int := ⟨RX3, TX3, 5, tyX3, rfl, by decide, i_X3, tyX3_ok, nmX3, by decide +kernel, Or.inl ⟨rfl, Or.inr ⟨"FountainShow", tb 60 (by decide +kernel)⟩⟩⟩
theorem fl_X6_9 : FL RX6 9 3 0 := ⟨RX6, TX6, 7, rfl, by decide, i_X6, Or.inl (tb 165 (by decide +kernel))⟩
theorem fp_X6_9 : FP RX6 9 3 0 (.array .char) := ⟨RX6, TX6, 7, tyX6, rfl, by decide, i_X6, tyX6_ok, nmX6, by decide +kernel, Or.inr ⟨rfl, rfl, (tb 165 (by decide +kernel))⟩⟩
theorem fl_X6_15 : FL RX6 15 3 1 := ⟨RX6, TX6, 7, rfl, by decide, i_X6, Or.inl (tb 166 (by decide +kernel))⟩
theorem fp_X6_15 : FP RX6 15 3 1 .int := ⟨RX6, TX6, 7, tyX6, rfl, by decide, i_X6, tyX6_ok, nmX6, by decide +kernel, Or.inl ⟨rfl, Or.inl (tb 166 (by decide +kernel))⟩⟩
theorem fl_X6_19 : FL RX6 19 3 2 := ⟨RX6, TX6, 7, rfl, by decide, i_X6, Or.inl (tb 168 (by decide +kernel))⟩
theorem fp_X6_19 : FP RX6 19 3 2 .int := ⟨RX6, TX6, 7, tyX6, rfl, by decide, i_X6, tyX6_ok, nmX6, by decide +kernel, Or.inl ⟨rfl, Or.inl (tb 168 (by decide +kernel))⟩⟩
theorem fl_X6_22 : FL RX6 22 3 3 := ⟨RX6, TX6, 7, rfl, by decide, i_X6, Or.inl (tb 170 (by decide +kernel))⟩
theorem fp_X6_22 : FP RX6 22 3 3 .int := ⟨RX6, TX6, 7, tyX6, rfl, by decide, i_X6, tyX6_ok, nmX6, by decide +kernel, Or.inl ⟨rfl, Or.inl (tb 170 (by decide +kernel))⟩⟩
theorem fl_X6_31 : FL RX6 31 3 4 := ⟨RX6, TX6, 7, rfl, by decide, i_X6, Or.inl (tb 172 (by decide +kernel))⟩
theorem fp_X6_31 : FP RX6 31 3 4 (.object "FountainShow$Command") := ⟨RX6, TX6, 7, tyX6, rfl, by decide, i_X6, tyX6_ok, nmX6, by decide +kernel, Or.inl ⟨rfl, Or.inl (tb 172 (by decide +kernel))⟩⟩
theorem fl_X6_34 : FL RX6 34 3 5 := ⟨RX6, TX6, 7, rfl, by decide, i_X6, Or.inl (tb 174 (by decide +kernel))⟩
theorem fp_X6_34 : FP RX6 34 3 5 (.array .int) := ⟨RX6, TX6, 7, tyX6, rfl, by decide, i_X6, tyX6_ok, nmX6, by decide +kernel, Or.inr ⟨rfl, rfl, (tb 174 (by decide +kernel))⟩⟩
theorem fl_X6_38 : FL RX6 38 3 6 := ⟨RX6, TX6, 7, rfl, by decide, i_X6, Or.inl (tb 176 (by decide +kernel))⟩
theorem fp_X6_38 : FP RX6 38 3 6 .int := ⟨RX6, TX6, 7, tyX6, rfl, by decide, i_X6, tyX6_ok, nmX6, by decide +kernel, Or.inl ⟨rfl, Or.inl (tb 176 (by decide +kernel))⟩⟩
theorem fl_X7_12 : FL RX7 12 4 0 := ⟨RX7, TX7, 8, rfl, by decide, i_X7, Or.inl (tb 110 (by decide +kernel))⟩
theorem fp_X7_12 : FP RX7 12 4 0 (.object "FountainShow$Jets") := ⟨RX7, TX7, 8, tyX7, rfl, by decide, i_X7, tyX7_ok, nmX7, by decide +kernel, Or.inr ⟨rfl, rfl, (tb 110 (by decide +kernel))⟩⟩
theorem fl_X7_21 : FL RX7 21 4 1 := ⟨RX7, TX7, 8, rfl, by decide, i_X7, Or.inl (tb 112 (by decide +kernel))⟩
theorem fp_X7_21 : FP RX7 21 4 1 (.object "FountainShow$Figures") := ⟨RX7, TX7, 8, tyX7, rfl, by decide, i_X7, tyX7_ok, nmX7, by decide +kernel, Or.inr ⟨rfl, rfl, (tb 112 (by decide +kernel))⟩⟩
theorem fl_X7_25 : FL RX7 25 4 2 := ⟨RX7, TX7, 8, rfl, by decide, i_X7, Or.inl (tb 114 (by decide +kernel))⟩
theorem fp_X7_25 : FP RX7 25 4 2 (.array .int) := ⟨RX7, TX7, 8, tyX7, rfl, by decide, i_X7, tyX7_ok, nmX7, by decide +kernel, Or.inr ⟨rfl, rfl, (tb 114 (by decide +kernel))⟩⟩
theorem fl_X7_29 : FL RX7 29 4 3 := ⟨RX7, TX7, 8, rfl, by decide, i_X7, Or.inl (tb 116 (by decide +kernel))⟩
theorem fp_X7_29 : FP RX7 29 4 3 (.array .int) := ⟨RX7, TX7, 8, tyX7, rfl, by decide, i_X7, tyX7_ok, nmX7, by decide +kernel, Or.inr ⟨rfl, rfl, (tb 116 (by decide +kernel))⟩⟩
theorem fl_X7_32 : FL RX7 32 4 4 := ⟨RX7, TX7, 8, rfl, by decide, i_X7, Or.inl (tb 118 (by decide +kernel))⟩
theorem fp_X7_32 : FP RX7 32 4 4 .int := ⟨RX7, TX7, 8, tyX7, rfl, by decide, i_X7, tyX7_ok, nmX7, by decide +kernel, Or.inl ⟨rfl, Or.inl (tb 118 (by decide +kernel))⟩⟩
theorem fl_X7_36 : FL RX7 36 4 5 := ⟨RX7, TX7, 8, rfl, by decide, i_X7, Or.inl (tb 120 (by decide +kernel))⟩
theorem fp_X7_36 : FP RX7 36 4 5 .int := ⟨RX7, TX7, 8, tyX7, rfl, by decide, i_X7, tyX7_ok, nmX7, by decide +kernel, Or.inl ⟨rfl, Or.inl (tb 120 (by decide +kernel))⟩⟩
theorem fl_X7_39 : FL RX7 39 4 6 := ⟨RX7, TX7, 8, rfl, by decide, i_X7, Or.inl (tb 122 (by decide +kernel))⟩
theorem fp_X7_39 : FP RX7 39 4 6 .long := ⟨RX7, TX7, 8, tyX7, rfl, by decide, i_X7, tyX7_ok, nmX7, by decide +kernel, Or.inl ⟨rfl, Or.inl (tb 122 (by decide +kernel))⟩⟩
theorem fl_X7_43 : FL RX7 43 4 7 := ⟨RX7, TX7, 8, rfl, by decide, i_X7, Or.inl (tb 124 (by decide +kernel))⟩
theorem fp_X7_43 : FP RX7 43 4 7 .long := ⟨RX7, TX7, 8, tyX7, rfl, by decide, i_X7, tyX7_ok, nmX7, by decide +kernel, Or.inl ⟨rfl, Or.inl (tb 124 (by decide +kernel))⟩⟩
theorem fl_X7_89 : FL RX7 89 0 0 := ⟨RX2, TX2, 5, rfl, by decide, i_X2, Or.inr ⟨"FountainShow", tb 86 (by decide +kernel)⟩⟩
theorem fl_X7_116 : FL RX7 116 0 1 := ⟨RX2, TX2, 5, rfl, by decide, i_X2, Or.inr ⟨"FountainShow", tb 89 (by decide +kernel)⟩⟩
theorem fl_X7_119 : FL RX7 119 1 1 := ⟨RX3, TX3, 5, rfl, by decide, i_X3, Or.inr ⟨"FountainShow", tb 58 (by decide +kernel)⟩⟩
theorem fl_X7_122 : FL RX7 122 0 2 := ⟨RX2, TX2, 5, rfl, by decide, i_X2, Or.inr ⟨"FountainShow", tb 92 (by decide +kernel)⟩⟩
theorem fl_X7_124 : FL RX7 124 0 3 := ⟨RX2, TX2, 5, rfl, by decide, i_X2, Or.inr ⟨"FountainShow", tb 95 (by decide +kernel)⟩⟩
theorem fl_X7_133 : FL RX7 133 1 2 := ⟨RX3, TX3, 5, rfl, by decide, i_X3, Or.inr ⟨"FountainShow", tb 62 (by decide +kernel)⟩⟩
theorem fp_X7_133 : FP RX7 133 1 2 .int := ⟨RX3, TX3, 5, tyX3, rfl, by decide, i_X3, tyX3_ok, nmX3, by decide +kernel, Or.inl ⟨rfl, Or.inr ⟨"FountainShow", tb 62 (by decide +kernel)⟩⟩⟩
theorem kn_X8_9 : KIN RX8 9 mX7_init 0 "FountainShow" := ⟨rfl, ⟨tb 44 (by decide +kernel), (tb 45 (by decide +kernel)), rfl, rfl, (tb 2 (by decide +kernel)), tb 46 (by decide +kernel)⟩, ⟨by decide +kernel, by decide +kernel⟩, by decide +kernel, by decide⟩
theorem kn_X8_39 : KIN RX8 39 mX4_init 0 "FountainShow" := ⟨rfl, ⟨tb 146 (by decide +kernel), (tb 147 (by decide +kernel)), rfl, rfl, (tb 5 (by decide +kernel)), tb 148 (by decide +kernel)⟩, ⟨by decide +kernel, by decide +kernel⟩, by decide +kernel, by decide⟩
theorem kn_X8_46 : KIN RX8 46 mX6_init 0 "FountainShow" := ⟨rfl, ⟨tb 159 (by decide +kernel), (tb 160 (by decide +kernel)), rfl, rfl, (tb 6 (by decide +kernel)), tb 161 (by decide +kernel)⟩, ⟨by decide +kernel, by decide +kernel⟩, by decide +kernel, by decide⟩
theorem kv_X8_68 : KV RX8 68 mX3_problemOfAdding 1 := ⟨rfl, ⟨tb 509 (by decide +kernel), (tb 510 (by decide +kernel)), (tb 511 (by decide +kernel)), (tb 3 (by decide +kernel)), tb 512 (by decide +kernel)⟩, ⟨by decide +kernel, by decide +kernel⟩, by decide +kernel, by decide⟩
theorem kv_X8_74 : KS RX8 74 mX8_refuse 1 := ⟨rfl, ⟨tb 525 (by decide +kernel), (tb 526 (by decide +kernel)), (tb 1 (by decide +kernel)), tb 527 (by decide +kernel)⟩, ⟨by decide +kernel, by decide +kernel⟩, by decide +kernel, by decide⟩
theorem kv_X8_78 : KV RX8 78 mX8_remember 0 := ⟨rfl, ⟨tb 585 (by decide +kernel), (tb 587 (by decide +kernel)), (tp 5 (by decide +kernel)), (tb 1 (by decide +kernel)), tb 588 (by decide +kernel)⟩, ⟨by decide +kernel, by decide +kernel⟩, by decide +kernel, by decide⟩
theorem kv_X8_81 : KV RX8 81 mX3_append 1 := ⟨rfl, ⟨tb 590 (by decide +kernel), (tb 591 (by decide +kernel)), (tb 592 (by decide +kernel)), (tb 3 (by decide +kernel)), tb 593 (by decide +kernel)⟩, ⟨by decide +kernel, by decide +kernel⟩, by decide +kernel, by decide⟩
theorem kv_X8_85 : KV RX8 85 mX8_requireJet 1 := ⟨rfl, ⟨tb 622 (by decide +kernel), (tb 624 (by decide +kernel)), (tp 6 (by decide +kernel)), (tb 1 (by decide +kernel)), tb 625 (by decide +kernel)⟩, ⟨by decide +kernel, by decide +kernel⟩, by decide +kernel, by decide⟩
theorem kv_X8_89 : KV RX8 89 mX7_dropJet 1 := ⟨rfl, ⟨tb 631 (by decide +kernel), (tb 632 (by decide +kernel)), (tb 633 (by decide +kernel)), (tb 2 (by decide +kernel)), tb 634 (by decide +kernel)⟩, ⟨by decide +kernel, by decide +kernel⟩, by decide +kernel, by decide⟩
theorem kv_X8_92 : KV RX8 92 mX3_problemOfOpening 2 := ⟨rfl, ⟨tb 659 (by decide +kernel), (tb 660 (by decide +kernel)), (tb 661 (by decide +kernel)), (tb 3 (by decide +kernel)), tb 662 (by decide +kernel)⟩, ⟨by decide +kernel, by decide +kernel⟩, by decide +kernel, by decide⟩
theorem kv_X8_96 : KV RX8 96 mX3_changeOpening 2 := ⟨rfl, ⟨tb 666 (by decide +kernel), (tb 667 (by decide +kernel)), (tb 668 (by decide +kernel)), (tb 3 (by decide +kernel)), tb 669 (by decide +kernel)⟩, ⟨by decide +kernel, by decide +kernel⟩, by decide +kernel, by decide⟩
theorem kv_X8_110 : KV RX8 110 mX3_sumOfOpenings 0 := ⟨rfl, ⟨tb 290 (by decide +kernel), (tb 272 (by decide +kernel)), (tb 273 (by decide +kernel)), (tb 3 (by decide +kernel)), tb 274 (by decide +kernel)⟩, ⟨by decide +kernel, by decide +kernel⟩, by decide +kernel, by decide⟩
theorem kv_X8_114 : KV RX8 114 mX3_heightOf 2 := ⟨rfl, ⟨tb 1386 (by decide +kernel), (tb 280 (by decide +kernel)), (tb 281 (by decide +kernel)), (tb 3 (by decide +kernel)), tb 282 (by decide +kernel)⟩, ⟨by decide +kernel, by decide +kernel⟩, by decide +kernel, by decide⟩
theorem kv_X8_117 : KV RX8 117 mX3_landingOf 2 := ⟨rfl, ⟨tb 1394 (by decide +kernel), (tb 276 (by decide +kernel)), (tb 277 (by decide +kernel)), (tb 3 (by decide +kernel)), tb 278 (by decide +kernel)⟩, ⟨by decide +kernel, by decide +kernel⟩, by decide +kernel, by decide⟩
theorem kv_X8_120 : KS RX8 120 mX3_isOutside 1 := ⟨rfl, ⟨tb 1395 (by decide +kernel), (tb 284 (by decide +kernel)), (tb 3 (by decide +kernel)), tb 285 (by decide +kernel)⟩, ⟨by decide +kernel, by decide +kernel⟩, by decide +kernel, by decide⟩
theorem kv_X8_124 : KV RX8 124 mX3_countWild 0 := ⟨rfl, ⟨tb 267 (by decide +kernel), (tb 268 (by decide +kernel)), (tb 269 (by decide +kernel)), (tb 3 (by decide +kernel)), tb 270 (by decide +kernel)⟩, ⟨by decide +kernel, by decide +kernel⟩, by decide +kernel, by decide⟩
theorem kv_X8_127 : KV RX8 127 mX8_requireAnyJet 0 := ⟨rfl, ⟨tb 1423 (by decide +kernel), (tb 1425 (by decide +kernel)), (tp 26 (by decide +kernel)), (tb 1 (by decide +kernel)), tb 1426 (by decide +kernel)⟩, ⟨by decide +kernel, by decide +kernel⟩, by decide +kernel, by decide⟩
theorem kv_X8_130 : KV RX8 130 mX3_findHighest 0 := ⟨rfl, ⟨tb 1428 (by decide +kernel), (tb 1429 (by decide +kernel)), (tb 1430 (by decide +kernel)), (tb 3 (by decide +kernel)), tb 1431 (by decide +kernel)⟩, ⟨by decide +kernel, by decide +kernel⟩, by decide +kernel, by decide⟩
theorem kv_X8_133 : KV RX8 133 mX3_has 1 := ⟨rfl, ⟨tb 626 (by decide +kernel), (tb 627 (by decide +kernel)), (tb 628 (by decide +kernel)), (tb 3 (by decide +kernel)), tb 629 (by decide +kernel)⟩, ⟨by decide +kernel, by decide +kernel⟩, by decide +kernel, by decide⟩
theorem kv_X8_143 : KV RX8 143 mX3_findByRank 1 := ⟨rfl, ⟨tb 1411 (by decide +kernel), (tb 1412 (by decide +kernel)), (tb 1413 (by decide +kernel)), (tb 3 (by decide +kernel)), tb 1414 (by decide +kernel)⟩, ⟨by decide +kernel, by decide +kernel⟩, by decide +kernel, by decide⟩
theorem kv_X8_146 : KV RX8 146 mX3_findNearestLanding 1 := ⟨rfl, ⟨tb 1439 (by decide +kernel), (tb 1440 (by decide +kernel)), (tb 1441 (by decide +kernel)), (tb 3 (by decide +kernel)), tb 1442 (by decide +kernel)⟩, ⟨by decide +kernel, by decide +kernel⟩, by decide +kernel, by decide⟩
theorem kv_X8_149 : KV RX8 149 mX3_countCrossingPairs 0 := ⟨rfl, ⟨tb 1347 (by decide +kernel), (tb 1348 (by decide +kernel)), (tb 1349 (by decide +kernel)), (tb 3 (by decide +kernel)), tb 1350 (by decide +kernel)⟩, ⟨by decide +kernel, by decide +kernel⟩, by decide +kernel, by decide⟩
theorem kv_X8_152 : KV RX8 152 mX4_countInversions 1 := ⟨rfl, ⟨tb 1351 (by decide +kernel), (tb 1352 (by decide +kernel)), (tb 1353 (by decide +kernel)), (tb 5 (by decide +kernel)), tb 1354 (by decide +kernel)⟩, ⟨by decide +kernel, by decide +kernel⟩, by decide +kernel, by decide⟩
theorem kv_X8_156 : KV RX8 156 mX3_problemOfCapacity 1 := ⟨rfl, ⟨tb 677 (by decide +kernel), (tb 678 (by decide +kernel)), (tb 679 (by decide +kernel)), (tb 3 (by decide +kernel)), tb 680 (by decide +kernel)⟩, ⟨by decide +kernel, by decide +kernel⟩, by decide +kernel, by decide⟩
theorem kv_X8_159 : KV RX8 159 mX3_changeCapacity 1 := ⟨rfl, ⟨tb 681 (by decide +kernel), (tb 682 (by decide +kernel)), (tb 683 (by decide +kernel)), (tb 3 (by decide +kernel)), tb 684 (by decide +kernel)⟩, ⟨by decide +kernel, by decide +kernel⟩, by decide +kernel, by decide⟩
theorem kv_X8_162 : KV RX8 162 mX3_problemOfWind 1 := ⟨rfl, ⟨tb 692 (by decide +kernel), (tb 693 (by decide +kernel)), (tb 694 (by decide +kernel)), (tb 3 (by decide +kernel)), tb 695 (by decide +kernel)⟩, ⟨by decide +kernel, by decide +kernel⟩, by decide +kernel, by decide⟩
theorem kv_X8_165 : KV RX8 165 mX3_changeWind 1 := ⟨rfl, ⟨tb 696 (by decide +kernel), (tb 697 (by decide +kernel)), (tb 698 (by decide +kernel)), (tb 3 (by decide +kernel)), tb 699 (by decide +kernel)⟩, ⟨by decide +kernel, by decide +kernel⟩, by decide +kernel, by decide⟩
theorem kv_X8_168 : KV RX8 168 mX3_closeWildJets 0 := ⟨rfl, ⟨tb 704 (by decide +kernel), (tb 705 (by decide +kernel)), (tb 706 (by decide +kernel)), (tb 3 (by decide +kernel)), tb 707 (by decide +kernel)⟩, ⟨by decide +kernel, by decide +kernel⟩, by decide +kernel, by decide⟩
theorem kv_X8_177 : KV RX8 177 mX3_supplyFor 1 := ⟨rfl, ⟨tb 1378 (by decide +kernel), (tb 458 (by decide +kernel)), (tb 459 (by decide +kernel)), (tb 3 (by decide +kernel)), tb 460 (by decide +kernel)⟩, ⟨by decide +kernel, by decide +kernel⟩, by decide +kernel, by decide⟩
theorem kv_X8_191 : KV RX8 191 mX2_problemOfAdding 0 := ⟨rfl, ⟨tb 719 (by decide +kernel), (tb 720 (by decide +kernel)), (tb 721 (by decide +kernel)), (tb 4 (by decide +kernel)), tb 722 (by decide +kernel)⟩, ⟨by decide +kernel, by decide +kernel⟩, by decide +kernel, by decide⟩
theorem kv_X8_196 : KV RX8 196 mX2_append 0 := ⟨rfl, ⟨tb 725 (by decide +kernel), (tb 726 (by decide +kernel)), (tb 727 (by decide +kernel)), (tb 4 (by decide +kernel)), tb 728 (by decide +kernel)⟩, ⟨by decide +kernel, by decide +kernel⟩, by decide +kernel, by decide⟩
theorem kv_X8_198 : KV RX8 198 mX7_problemOfDroppingFigure 1 := ⟨rfl, ⟨tb 736 (by decide +kernel), (tb 737 (by decide +kernel)), (tb 738 (by decide +kernel)), (tb 2 (by decide +kernel)), tb 739 (by decide +kernel)⟩, ⟨by decide +kernel, by decide +kernel⟩, by decide +kernel, by decide⟩
theorem kv_X8_201 : KV RX8 201 mX7_dropFigure 1 := ⟨rfl, ⟨tb 747 (by decide +kernel), (tb 748 (by decide +kernel)), (tb 749 (by decide +kernel)), (tb 2 (by decide +kernel)), tb 750 (by decide +kernel)⟩, ⟨by decide +kernel, by decide +kernel⟩, by decide +kernel, by decide⟩
theorem kv_X8_204 : KV RX8 204 mX7_problemOfStep 4 := ⟨rfl, ⟨tb 783 (by decide +kernel), (tb 784 (by decide +kernel)), (tb 785 (by decide +kernel)), (tb 2 (by decide +kernel)), tb 786 (by decide +kernel)⟩, ⟨by decide +kernel, by decide +kernel⟩, by decide +kernel, by decide⟩
theorem kv_X8_208 : KV RX8 208 mX2_appendStep 4 := ⟨rfl, ⟨tb 789 (by decide +kernel), (tb 790 (by decide +kernel)), (tb 791 (by decide +kernel)), (tb 4 (by decide +kernel)), tb 792 (by decide +kernel)⟩, ⟨by decide +kernel, by decide +kernel⟩, by decide +kernel, by decide⟩
theorem kv_X8_212 : KV RX8 212 mX8_requireStep 2 := ⟨rfl, ⟨tb 762 (by decide +kernel), (tb 764 (by decide +kernel)), (tp 10 (by decide +kernel)), (tb 1 (by decide +kernel)), tb 765 (by decide +kernel)⟩, ⟨by decide +kernel, by decide +kernel⟩, by decide +kernel, by decide⟩
theorem kv_X8_216 : KV RX8 216 mX2_dropStep 2 := ⟨rfl, ⟨tb 772 (by decide +kernel), (tb 773 (by decide +kernel)), (tb 774 (by decide +kernel)), (tb 4 (by decide +kernel)), tb 775 (by decide +kernel)⟩, ⟨by decide +kernel, by decide +kernel⟩, by decide +kernel, by decide⟩
theorem kv_X8_220 : KV RX8 220 mX8_requireFigure 1 := ⟨rfl, ⟨tb 1214 (by decide +kernel), (tb 1216 (by decide +kernel)), (tp 20 (by decide +kernel)), (tb 1 (by decide +kernel)), tb 1217 (by decide +kernel)⟩, ⟨by decide +kernel, by decide +kernel⟩, by decide +kernel, by decide⟩
theorem kv_X8_229 : KS RX8 229 mX8_slot 2 := ⟨rfl, ⟨tb 1272 (by decide +kernel), (tb 446 (by decide +kernel)), (tb 1 (by decide +kernel)), tb 447 (by decide +kernel)⟩, ⟨by decide +kernel, by decide +kernel⟩, by decide +kernel, by decide⟩
theorem kv_X8_235 : KV RX8 235 mX2_lengthOf 1 := ⟨rfl, ⟨tb 1549 (by decide +kernel), (tb 316 (by decide +kernel)), (tb 317 (by decide +kernel)), (tb 4 (by decide +kernel)), tb 318 (by decide +kernel)⟩, ⟨by decide +kernel, by decide +kernel⟩, by decide +kernel, by decide⟩
theorem kv_X8_238 : KV RX8 238 mX2_countUsing 1 := ⟨rfl, ⟨tb 1460 (by decide +kernel), (tb 1461 (by decide +kernel)), (tb 1462 (by decide +kernel)), (tb 4 (by decide +kernel)), tb 1463 (by decide +kernel)⟩, ⟨by decide +kernel, by decide +kernel⟩, by decide +kernel, by decide⟩
theorem kv_X8_241 : KV RX8 241 mX7_problemOfPlaying 2 := ⟨rfl, ⟨tb 800 (by decide +kernel), (tb 801 (by decide +kernel)), (tb 802 (by decide +kernel)), (tb 2 (by decide +kernel)), tb 803 (by decide +kernel)⟩, ⟨by decide +kernel, by decide +kernel⟩, by decide +kernel, by decide⟩
theorem kv_X8_244 : KV RX8 244 mX7_appendEntry 2 := ⟨rfl, ⟨tb 804 (by decide +kernel), (tb 805 (by decide +kernel)), (tb 806 (by decide +kernel)), (tb 2 (by decide +kernel)), tb 807 (by decide +kernel)⟩, ⟨by decide +kernel, by decide +kernel⟩, by decide +kernel, by decide⟩
theorem kv_X8_247 : KV RX8 247 mX8_requireEntry 1 := ⟨rfl, ⟨tb 815 (by decide +kernel), (tb 817 (by decide +kernel)), (tp 11 (by decide +kernel)), (tb 1 (by decide +kernel)), tb 818 (by decide +kernel)⟩, ⟨by decide +kernel, by decide +kernel⟩, by decide +kernel, by decide⟩
theorem kv_X8_250 : KV RX8 250 mX7_dropEntry 1 := ⟨rfl, ⟨tb 820 (by decide +kernel), (tb 821 (by decide +kernel)), (tb 822 (by decide +kernel)), (tb 2 (by decide +kernel)), tb 823 (by decide +kernel)⟩, ⟨by decide +kernel, by decide +kernel⟩, by decide +kernel, by decide⟩
theorem kv_X8_253 : KV RX8 253 mX7_problemOfPassing 1 := ⟨rfl, ⟨tb 831 (by decide +kernel), (tb 832 (by decide +kernel)), (tb 833 (by decide +kernel)), (tb 2 (by decide +kernel)), tb 834 (by decide +kernel)⟩, ⟨by decide +kernel, by decide +kernel⟩, by decide +kernel, by decide⟩
theorem kv_X8_256 : KV RX8 256 mX7_passBeats 1 := ⟨rfl, ⟨tb 433 (by decide +kernel), (tb 434 (by decide +kernel)), (tb 435 (by decide +kernel)), (tb 2 (by decide +kernel)), tb 436 (by decide +kernel)⟩, ⟨by decide +kernel, by decide +kernel⟩, by decide +kernel, by decide⟩
theorem kv_X8_271 : KV RX8 271 mX7_beatsToEmptyQueue 0 := ⟨rfl, ⟨tb 311 (by decide +kernel), (tb 312 (by decide +kernel)), (tb 313 (by decide +kernel)), (tb 2 (by decide +kernel)), tb 314 (by decide +kernel)⟩, ⟨by decide +kernel, by decide +kernel⟩, by decide +kernel, by decide⟩
theorem kv_X8_274 : KS RX8 274 mX8_requireForecast 1 := ⟨rfl, ⟨tb 341 (by decide +kernel), (tb 342 (by decide +kernel)), (tb 1 (by decide +kernel)), tb 343 (by decide +kernel)⟩, ⟨by decide +kernel, by decide +kernel⟩, by decide +kernel, by decide⟩
theorem kv_X8_277 : KV RX8 277 mX7_copyFrom 1 := ⟨rfl, ⟨tb 416 (by decide +kernel), (tb 417 (by decide +kernel)), (tb 418 (by decide +kernel)), (tb 2 (by decide +kernel)), tb 419 (by decide +kernel)⟩, ⟨by decide +kernel, by decide +kernel⟩, by decide +kernel, by decide⟩
theorem kv_X8_281 : KV RX8 281 mX7_demandFromLastSteps 1 := ⟨rfl, ⟨tb 1335 (by decide +kernel), (tb 1336 (by decide +kernel)), (tb 1337 (by decide +kernel)), (tb 2 (by decide +kernel)), tb 1338 (by decide +kernel)⟩, ⟨by decide +kernel, by decide +kernel⟩, by decide +kernel, by decide⟩
theorem kv_X8_284 : KV RX8 284 mX7_passOneBeat 0 := ⟨rfl, ⟨tb 472 (by decide +kernel), (tb 438 (by decide +kernel)), (tb 439 (by decide +kernel)), (tb 2 (by decide +kernel)), tb 440 (by decide +kernel)⟩, ⟨by decide +kernel, by decide +kernel⟩, by decide +kernel, by decide⟩
theorem kv_X8_299 : KV RX8 299 mX8_writeStep 1 := ⟨rfl, ⟨tb 1273 (by decide +kernel), (tb 1275 (by decide +kernel)), (tp 21 (by decide +kernel)), (tb 1 (by decide +kernel)), tb 1276 (by decide +kernel)⟩, ⟨by decide +kernel, by decide +kernel⟩, by decide +kernel, by decide⟩
theorem kv_X8_314 : KV RX8 314 mX6_isFull 0 := ⟨rfl, ⟨tb 1080 (by decide +kernel), (tb 1081 (by decide +kernel)), (tb 1082 (by decide +kernel)), (tb 6 (by decide +kernel)), tb 1083 (by decide +kernel)⟩, ⟨by decide +kernel, by decide +kernel⟩, by decide +kernel, by decide⟩
theorem kv_X8_323 : KV RX8 323 mX6_append 1 := ⟨rfl, ⟨tb 1085 (by decide +kernel), (tb 1086 (by decide +kernel)), (tb 1087 (by decide +kernel)), (tb 6 (by decide +kernel)), tb 1088 (by decide +kernel)⟩, ⟨by decide +kernel, by decide +kernel⟩, by decide +kernel, by decide⟩
theorem kv_X8_326 : KV RX8 326 mX6_findError 0 := ⟨rfl, ⟨tb 1096 (by decide +kernel), (tb 1097 (by decide +kernel)), (tb 1098 (by decide +kernel)), (tb 6 (by decide +kernel)), tb 1099 (by decide +kernel)⟩, ⟨by decide +kernel, by decide +kernel⟩, by decide +kernel, by decide⟩
theorem kv_X8_336 : KV RX8 336 mX8_performUntilProblem 0 := ⟨rfl, ⟨tb 1142 (by decide +kernel), (tb 1144 (by decide +kernel)), (tp 19 (by decide +kernel)), (tb 1 (by decide +kernel)), tb 1145 (by decide +kernel)⟩, ⟨by decide +kernel, by decide +kernel⟩, by decide +kernel, by decide⟩
theorem kv_X8_380 : KV RX8 380 mX2_has 1 := ⟨rfl, ⟨tb 1218 (by decide +kernel), (tb 741 (by decide +kernel)), (tb 742 (by decide +kernel)), (tb 4 (by decide +kernel)), tb 743 (by decide +kernel)⟩, ⟨by decide +kernel, by decide +kernel⟩, by decide +kernel, by decide⟩
theorem kv_X8_383 : KV RX8 383 mX2_hasStep 2 := ⟨rfl, ⟨tb 766 (by decide +kernel), (tb 767 (by decide +kernel)), (tb 768 (by decide +kernel)), (tb 4 (by decide +kernel)), tb 769 (by decide +kernel)⟩, ⟨by decide +kernel, by decide +kernel⟩, by decide +kernel, by decide⟩
theorem kv_X8_402 : KV RX8 402 mX6_readCommand 0 := ⟨rfl, ⟨tb 1146 (by decide +kernel), (tb 1101 (by decide +kernel)), (tb 1102 (by decide +kernel)), (tb 6 (by decide +kernel)), tb 1103 (by decide +kernel)⟩, ⟨by decide +kernel, by decide +kernel⟩, by decide +kernel, by decide⟩
theorem kv_X8_412 : KV RX8 412 mX7_problemOf 2 := ⟨rfl, ⟨tb 1147 (by decide +kernel), (tb 1148 (by decide +kernel)), (tb 1149 (by decide +kernel)), (tb 2 (by decide +kernel)), tb 1150 (by decide +kernel)⟩, ⟨by decide +kernel, by decide +kernel⟩, by decide +kernel, by decide⟩
theorem kv_X8_420 : KV RX8 420 mX7_carryOut 2 := ⟨rfl, ⟨tb 1165 (by decide +kernel), (tb 1166 (by decide +kernel)), (tb 1167 (by decide +kernel)), (tb 2 (by decide +kernel)), tb 1168 (by decide +kernel)⟩, ⟨by decide +kernel, by decide +kernel⟩, by decide +kernel, by decide⟩
theorem kv_X8_424 : KV RX8 424 mX6_skipSemicolon 0 := ⟨rfl, ⟨tb 1178 (by decide +kernel), (tb 1138 (by decide +kernel)), (tb 1139 (by decide +kernel)), (tb 6 (by decide +kernel)), tb 1140 (by decide +kernel)⟩, ⟨by decide +kernel, by decide +kernel⟩, by decide +kernel, by decide⟩
theorem kv_X2_34 : KV RX2 34 mX2_has 1 := ⟨rfl, ⟨tb 770 (by decide +kernel), (tb 741 (by decide +kernel)), (tb 742 (by decide +kernel)), (tb 4 (by decide +kernel)), tb 743 (by decide +kernel)⟩, ⟨by decide +kernel, by decide +kernel⟩, by decide +kernel, by decide⟩
theorem kn_X2_47 : KSN RX2 47 mX8_slot 2 "FountainShow" := ⟨rfl, ⟨tb 647 (by decide +kernel), (tb 446 (by decide +kernel)), (tb 1 (by decide +kernel)), tb 447 (by decide +kernel)⟩, ⟨by decide +kernel, by decide +kernel⟩, by decide +kernel, by decide⟩
theorem kv_X2_51 : KV RX2 51 mX2_moveStep 2 := ⟨rfl, ⟨tb 648 (by decide +kernel), (tb 650 (by decide +kernel)), (tp 8 (by decide +kernel)), (tb 4 (by decide +kernel)), tb 651 (by decide +kernel)⟩, ⟨by decide +kernel, by decide +kernel⟩, by decide +kernel, by decide⟩
theorem kv_X2_55 : KV RX2 55 mX2_uses 2 := ⟨rfl, ⟨tb 1464 (by decide +kernel), (tb 1466 (by decide +kernel)), (tp 28 (by decide +kernel)), (tb 4 (by decide +kernel)), tb 1467 (by decide +kernel)⟩, ⟨by decide +kernel, by decide +kernel⟩, by decide +kernel, by decide⟩
theorem kv_X2_59 : KV RX2 59 mX2_forgetJetIn 2 := ⟨rfl, ⟨tb 643 (by decide +kernel), (tb 645 (by decide +kernel)), (tp 7 (by decide +kernel)), (tb 4 (by decide +kernel)), tb 646 (by decide +kernel)⟩, ⟨by decide +kernel, by decide +kernel⟩, by decide +kernel, by decide⟩
theorem kv_X3_40 : KV RX3 40 mX3_isTaken 1 := ⟨rfl, ⟨tb 515 (by decide +kernel), (tb 517 (by decide +kernel)), (tp 4 (by decide +kernel)), (tb 3 (by decide +kernel)), tb 518 (by decide +kernel)⟩, ⟨by decide +kernel, by decide +kernel⟩, by decide +kernel, by decide⟩
theorem kv_X3_53 : KV RX3 53 mX3_has 1 := ⟨rfl, ⟨tb 663 (by decide +kernel), (tb 627 (by decide +kernel)), (tb 628 (by decide +kernel)), (tb 3 (by decide +kernel)), tb 629 (by decide +kernel)⟩, ⟨by decide +kernel, by decide +kernel⟩, by decide +kernel, by decide⟩
theorem kv_X3_65 : KV RX3 65 mX3_heightOf 2 := ⟨rfl, ⟨tb 279 (by decide +kernel), (tb 280 (by decide +kernel)), (tb 281 (by decide +kernel)), (tb 3 (by decide +kernel)), tb 282 (by decide +kernel)⟩, ⟨by decide +kernel, by decide +kernel⟩, by decide +kernel, by decide⟩
theorem kv_X3_68 : KV RX3 68 mX3_sumOfOpenings 0 := ⟨rfl, ⟨tb 271 (by decide +kernel), (tb 272 (by decide +kernel)), (tb 273 (by decide +kernel)), (tb 3 (by decide +kernel)), tb 274 (by decide +kernel)⟩, ⟨by decide +kernel, by decide +kernel⟩, by decide +kernel, by decide⟩
theorem kv_X3_72 : KV RX3 72 mX3_landingOf 2 := ⟨rfl, ⟨tb 275 (by decide +kernel), (tb 276 (by decide +kernel)), (tb 277 (by decide +kernel)), (tb 3 (by decide +kernel)), tb 278 (by decide +kernel)⟩, ⟨by decide +kernel, by decide +kernel⟩, by decide +kernel, by decide⟩
theorem kv_X3_75 : KS RX3 75 mX3_isOutside 1 := ⟨rfl, ⟨tb 283 (by decide +kernel), (tb 284 (by decide +kernel)), (tb 3 (by decide +kernel)), tb 285 (by decide +kernel)⟩, ⟨by decide +kernel, by decide +kernel⟩, by decide +kernel, by decide⟩
theorem kv_X3_78 : KV RX3 78 mX3_findFirstWild 0 := ⟨rfl, ⟨tb 708 (by decide +kernel), (tb 710 (by decide +kernel)), (tp 9 (by decide +kernel)), (tb 3 (by decide +kernel)), tb 711 (by decide +kernel)⟩, ⟨by decide +kernel, by decide +kernel⟩, by decide +kernel, by decide⟩
theorem kv_X3_81 : KV RX3 81 mX3_rankOf 1 := ⟨rfl, ⟨tb 1415 (by decide +kernel), (tb 1362 (by decide +kernel)), (tp 24 (by decide +kernel)), (tb 3 (by decide +kernel)), tb 1363 (by decide +kernel)⟩, ⟨by decide +kernel, by decide +kernel⟩, by decide +kernel, by decide⟩
theorem kv_X3_85 : KV RX3 85 mX3_distance 3 := ⟨rfl, ⟨tb 1443 (by decide +kernel), (tb 1445 (by decide +kernel)), (tp 27 (by decide +kernel)), (tb 3 (by decide +kernel)), tb 1446 (by decide +kernel)⟩, ⟨by decide +kernel, by decide +kernel⟩, by decide +kernel, by decide⟩
theorem kv_X4_18 : KV RX4 18 mX4_takeLandings 1 := ⟨rfl, ⟨tb 1355 (by decide +kernel), (tb 1357 (by decide +kernel)), (tp 23 (by decide +kernel)), (tb 5 (by decide +kernel)), tb 1358 (by decide +kernel)⟩, ⟨by decide +kernel, by decide +kernel⟩, by decide +kernel, by decide⟩
theorem kv_X4_34 : KV RX4 34 mX4_merge 3 := ⟨rfl, ⟨tb 1366 (by decide +kernel), (tb 1368 (by decide +kernel)), (tp 25 (by decide +kernel)), (tb 5 (by decide +kernel)), tb 1369 (by decide +kernel)⟩, ⟨by decide +kernel, by decide +kernel⟩, by decide +kernel, by decide⟩
theorem kv_X4_38 : KV RX4 38 mX3_sumOfOpenings 0 := ⟨rfl, ⟨tb 1359 (by decide +kernel), (tb 272 (by decide +kernel)), (tb 273 (by decide +kernel)), (tb 3 (by decide +kernel)), tb 274 (by decide +kernel)⟩, ⟨by decide +kernel, by decide +kernel⟩, by decide +kernel, by decide⟩
theorem kn_X4_42 : KVN RX4 42 mX3_rankOf 1 "FountainShow" := ⟨rfl, ⟨tb 1360 (by decide +kernel), (tb 1362 (by decide +kernel)), (tp 24 (by decide +kernel)), (tb 3 (by decide +kernel)), tb 1363 (by decide +kernel)⟩, ⟨by decide +kernel, by decide +kernel⟩, by decide +kernel, by decide⟩
theorem kv_X4_46 : KV RX4 46 mX3_landingOf 2 := ⟨rfl, ⟨tb 1364 (by decide +kernel), (tb 276 (by decide +kernel)), (tb 277 (by decide +kernel)), (tb 3 (by decide +kernel)), tb 278 (by decide +kernel)⟩, ⟨by decide +kernel, by decide +kernel⟩, by decide +kernel, by decide⟩
theorem kv_X6_41 : KV RX6 41 mX6_readCommand 0 := ⟨rfl, ⟨tb 1100 (by decide +kernel), (tb 1101 (by decide +kernel)), (tb 1102 (by decide +kernel)), (tb 6 (by decide +kernel)), tb 1103 (by decide +kernel)⟩, ⟨by decide +kernel, by decide +kernel⟩, by decide +kernel, by decide⟩
theorem kv_X6_45 : KV RX6 45 mX6_skipSemicolon 0 := ⟨rfl, ⟨tb 1137 (by decide +kernel), (tb 1138 (by decide +kernel)), (tb 1139 (by decide +kernel)), (tb 6 (by decide +kernel)), tb 1140 (by decide +kernel)⟩, ⟨by decide +kernel, by decide +kernel⟩, by decide +kernel, by decide⟩
theorem kv_X6_48 : KV RX6 48 mX6_takeCharacter 1 := ⟨rfl, ⟨tb 1132 (by decide +kernel), (tb 1134 (by decide +kernel)), (tp 18 (by decide +kernel)), (tb 6 (by decide +kernel)), tb 1135 (by decide +kernel)⟩, ⟨by decide +kernel, by decide +kernel⟩, by decide +kernel, by decide⟩
theorem kv_X6_60 : KV RX6 60 mX6_fits 1 := ⟨rfl, ⟨tb 1106 (by decide +kernel), (tb 1108 (by decide +kernel)), (tp 12 (by decide +kernel)), (tb 6 (by decide +kernel)), tb 1109 (by decide +kernel)⟩, ⟨by decide +kernel, by decide +kernel⟩, by decide +kernel, by decide⟩
theorem kv_X6_79 : KV RX6 79 mX6_takePart 1 := ⟨rfl, ⟨tb 1112 (by decide +kernel), (tb 1114 (by decide +kernel)), (tp 13 (by decide +kernel)), (tb 6 (by decide +kernel)), tb 1115 (by decide +kernel)⟩, ⟨by decide +kernel, by decide +kernel⟩, by decide +kernel, by decide⟩
theorem kv_X6_82 : KV RX6 82 mX6_takeNumber 1 := ⟨rfl, ⟨tb 1116 (by decide +kernel), (tb 1118 (by decide +kernel)), (tp 14 (by decide +kernel)), (tb 6 (by decide +kernel)), tb 1119 (by decide +kernel)⟩, ⟨by decide +kernel, by decide +kernel⟩, by decide +kernel, by decide⟩
theorem kv_X6_86 : KV RX6 86 mX6_takeSign 0 := ⟨rfl, ⟨tb 1128 (by decide +kernel), (tb 1130 (by decide +kernel)), (tp 17 (by decide +kernel)), (tb 6 (by decide +kernel)), tb 1131 (by decide +kernel)⟩, ⟨by decide +kernel, by decide +kernel⟩, by decide +kernel, by decide⟩
theorem kv_X6_89 : KV RX6 89 mX6_standsAtDigit 0 := ⟨rfl, ⟨tb 1120 (by decide +kernel), (tb 1122 (by decide +kernel)), (tp 15 (by decide +kernel)), (tb 6 (by decide +kernel)), tb 1123 (by decide +kernel)⟩, ⟨by decide +kernel, by decide +kernel⟩, by decide +kernel, by decide⟩
theorem kv_X6_92 : KV RX6 92 mX6_keepNumber 1 := ⟨rfl, ⟨tb 1124 (by decide +kernel), (tb 1126 (by decide +kernel)), (tp 16 (by decide +kernel)), (tb 6 (by decide +kernel)), tb 1127 (by decide +kernel)⟩, ⟨by decide +kernel, by decide +kernel⟩, by decide +kernel, by decide⟩
theorem kn_X7_11 : KIN RX7 11 mX3_init 0 "FountainShow" := ⟨rfl, ⟨tb 50 (by decide +kernel), (tb 51 (by decide +kernel)), rfl, rfl, (tb 3 (by decide +kernel)), tb 52 (by decide +kernel)⟩, ⟨by decide +kernel, by decide +kernel⟩, by decide +kernel, by decide⟩
theorem kn_X7_20 : KIN RX7 20 mX2_init 0 "FountainShow" := ⟨rfl, ⟨tb 81 (by decide +kernel), (tb 82 (by decide +kernel)), rfl, rfl, (tb 4 (by decide +kernel)), tb 83 (by decide +kernel)⟩, ⟨by decide +kernel, by decide +kernel⟩, by decide +kernel, by decide⟩
theorem kv_X7_46 : KV RX7 46 mX3_copyFrom 1 := ⟨rfl, ⟨tb 420 (by decide +kernel), (tb 421 (by decide +kernel)), (tb 422 (by decide +kernel)), (tb 3 (by decide +kernel)), tb 423 (by decide +kernel)⟩, ⟨by decide +kernel, by decide +kernel⟩, by decide +kernel, by decide⟩
theorem kv_X7_50 : KV RX7 50 mX2_copyFrom 1 := ⟨rfl, ⟨tb 427 (by decide +kernel), (tb 428 (by decide +kernel)), (tb 429 (by decide +kernel)), (tb 4 (by decide +kernel)), tb 430 (by decide +kernel)⟩, ⟨by decide +kernel, by decide +kernel⟩, by decide +kernel, by decide⟩
theorem kv_X7_59 : KV RX7 59 mX3_drop 1 := ⟨rfl, ⟨tb 635 (by decide +kernel), (tb 636 (by decide +kernel)), (tb 637 (by decide +kernel)), (tb 3 (by decide +kernel)), tb 638 (by decide +kernel)⟩, ⟨by decide +kernel, by decide +kernel⟩, by decide +kernel, by decide⟩
theorem kv_X7_63 : KV RX7 63 mX2_forgetJet 1 := ⟨rfl, ⟨tb 639 (by decide +kernel), (tb 640 (by decide +kernel)), (tb 641 (by decide +kernel)), (tb 4 (by decide +kernel)), tb 642 (by decide +kernel)⟩, ⟨by decide +kernel, by decide +kernel⟩, by decide +kernel, by decide⟩
theorem kv_X7_67 : KV RX7 67 mX2_has 1 := ⟨rfl, ⟨tb 740 (by decide +kernel), (tb 741 (by decide +kernel)), (tb 742 (by decide +kernel)), (tb 4 (by decide +kernel)), tb 743 (by decide +kernel)⟩, ⟨by decide +kernel, by decide +kernel⟩, by decide +kernel, by decide⟩
theorem kv_X7_83 : KV RX7 83 mX2_drop 1 := ⟨rfl, ⟨tb 751 (by decide +kernel), (tb 752 (by decide +kernel)), (tb 753 (by decide +kernel)), (tb 4 (by decide +kernel)), tb 754 (by decide +kernel)⟩, ⟨by decide +kernel, by decide +kernel⟩, by decide +kernel, by decide⟩
theorem kv_X7_85 : KV RX7 85 mX3_has 1 := ⟨rfl, ⟨tb 787 (by decide +kernel), (tb 627 (by decide +kernel)), (tb 628 (by decide +kernel)), (tb 3 (by decide +kernel)), tb 629 (by decide +kernel)⟩, ⟨by decide +kernel, by decide +kernel⟩, by decide +kernel, by decide⟩
theorem kv_X7_92 : KV RX7 92 mX7_moveEntry 2 := ⟨rfl, ⟨tb 452 (by decide +kernel), (tb 454 (by decide +kernel)), (tp 3 (by decide +kernel)), (tb 2 (by decide +kernel)), tb 455 (by decide +kernel)⟩, ⟨by decide +kernel, by decide +kernel⟩, by decide +kernel, by decide⟩
theorem kv_X7_96 : KV RX7 96 mX7_passOneBeat 0 := ⟨rfl, ⟨tb 437 (by decide +kernel), (tb 438 (by decide +kernel)), (tb 439 (by decide +kernel)), (tb 2 (by decide +kernel)), tb 440 (by decide +kernel)⟩, ⟨by decide +kernel, by decide +kernel⟩, by decide +kernel, by decide⟩
theorem kv_X7_100 : KV RX7 100 mX7_happenDueSteps 1 := ⟨rfl, ⟨tb 441 (by decide +kernel), (tb 443 (by decide +kernel)), (tp 1 (by decide +kernel)), (tb 2 (by decide +kernel)), tb 444 (by decide +kernel)⟩, ⟨by decide +kernel, by decide +kernel⟩, by decide +kernel, by decide⟩
theorem kv_X7_103 : KV RX7 103 mX7_dropFinishedEntries 0 := ⟨rfl, ⟨tb 448 (by decide +kernel), (tb 450 (by decide +kernel)), (tp 2 (by decide +kernel)), (tb 2 (by decide +kernel)), tb 451 (by decide +kernel)⟩, ⟨by decide +kernel, by decide +kernel⟩, by decide +kernel, by decide⟩
theorem kv_X7_106 : KV RX7 106 mX3_sumOfOpenings 0 := ⟨rfl, ⟨tb 456 (by decide +kernel), (tb 272 (by decide +kernel)), (tb 273 (by decide +kernel)), (tb 3 (by decide +kernel)), tb 274 (by decide +kernel)⟩, ⟨by decide +kernel, by decide +kernel⟩, by decide +kernel, by decide⟩
theorem kv_X7_109 : KV RX7 109 mX3_supplyFor 1 := ⟨rfl, ⟨tb 457 (by decide +kernel), (tb 458 (by decide +kernel)), (tb 459 (by decide +kernel)), (tb 3 (by decide +kernel)), tb 460 (by decide +kernel)⟩, ⟨by decide +kernel, by decide +kernel⟩, by decide +kernel, by decide⟩
theorem kn_X7_112 : KSN RX7 112 mX8_slot 2 "FountainShow" := ⟨rfl, ⟨tb 445 (by decide +kernel), (tb 446 (by decide +kernel)), (tb 1 (by decide +kernel)), tb 447 (by decide +kernel)⟩, ⟨by decide +kernel, by decide +kernel⟩, by decide +kernel, by decide⟩
theorem kv_X7_125 : KV RX7 125 mX2_lengthOf 1 := ⟨rfl, ⟨tb 315 (by decide +kernel), (tb 316 (by decide +kernel)), (tb 317 (by decide +kernel)), (tb 4 (by decide +kernel)), tb 318 (by decide +kernel)⟩, ⟨by decide +kernel, by decide +kernel⟩, by decide +kernel, by decide⟩
theorem kv_X7_136 : KV RX7 136 mX7_openingFromLastStep 2 := ⟨rfl, ⟨tb 1339 (by decide +kernel), (tb 1341 (by decide +kernel)), (tp 22 (by decide +kernel)), (tb 2 (by decide +kernel)), tb 1342 (by decide +kernel)⟩, ⟨by decide +kernel, by decide +kernel⟩, by decide +kernel, by decide⟩
theorem kv_X7_149 : KV RX7 149 mX3_problemOfAdding 1 := ⟨rfl, ⟨tb 1156 (by decide +kernel), (tb 510 (by decide +kernel)), (tb 511 (by decide +kernel)), (tb 3 (by decide +kernel)), tb 512 (by decide +kernel)⟩, ⟨by decide +kernel, by decide +kernel⟩, by decide +kernel, by decide⟩
theorem kv_X7_153 : KV RX7 153 mX3_problemOfOpening 2 := ⟨rfl, ⟨tb 1157 (by decide +kernel), (tb 660 (by decide +kernel)), (tb 661 (by decide +kernel)), (tb 3 (by decide +kernel)), tb 662 (by decide +kernel)⟩, ⟨by decide +kernel, by decide +kernel⟩, by decide +kernel, by decide⟩
theorem kv_X7_157 : KV RX7 157 mX3_problemOfCapacity 1 := ⟨rfl, ⟨tb 1158 (by decide +kernel), (tb 678 (by decide +kernel)), (tb 679 (by decide +kernel)), (tb 3 (by decide +kernel)), tb 680 (by decide +kernel)⟩, ⟨by decide +kernel, by decide +kernel⟩, by decide +kernel, by decide⟩
theorem kv_X7_160 : KV RX7 160 mX3_problemOfWind 1 := ⟨rfl, ⟨tb 1159 (by decide +kernel), (tb 693 (by decide +kernel)), (tb 694 (by decide +kernel)), (tb 3 (by decide +kernel)), tb 695 (by decide +kernel)⟩, ⟨by decide +kernel, by decide +kernel⟩, by decide +kernel, by decide⟩
theorem kv_X7_163 : KV RX7 163 mX2_problemOfAdding 0 := ⟨rfl, ⟨tb 1160 (by decide +kernel), (tb 720 (by decide +kernel)), (tb 721 (by decide +kernel)), (tb 4 (by decide +kernel)), tb 722 (by decide +kernel)⟩, ⟨by decide +kernel, by decide +kernel⟩, by decide +kernel, by decide⟩
theorem kv_X7_166 : KV RX7 166 mX7_problemOfStep 4 := ⟨rfl, ⟨tb 1161 (by decide +kernel), (tb 784 (by decide +kernel)), (tb 785 (by decide +kernel)), (tb 2 (by decide +kernel)), tb 786 (by decide +kernel)⟩, ⟨by decide +kernel, by decide +kernel⟩, by decide +kernel, by decide⟩
theorem kv_X7_170 : KV RX7 170 mX7_problemOfPlaying 2 := ⟨rfl, ⟨tb 1162 (by decide +kernel), (tb 801 (by decide +kernel)), (tb 802 (by decide +kernel)), (tb 2 (by decide +kernel)), tb 803 (by decide +kernel)⟩, ⟨by decide +kernel, by decide +kernel⟩, by decide +kernel, by decide⟩
theorem kv_X7_173 : KV RX7 173 mX7_problemOfPassing 1 := ⟨rfl, ⟨tb 1163 (by decide +kernel), (tb 832 (by decide +kernel)), (tb 833 (by decide +kernel)), (tb 2 (by decide +kernel)), tb 834 (by decide +kernel)⟩, ⟨by decide +kernel, by decide +kernel⟩, by decide +kernel, by decide⟩
theorem kv_X7_176 : KV RX7 176 mX3_append 1 := ⟨rfl, ⟨tb 1169 (by decide +kernel), (tb 591 (by decide +kernel)), (tb 592 (by decide +kernel)), (tb 3 (by decide +kernel)), tb 593 (by decide +kernel)⟩, ⟨by decide +kernel, by decide +kernel⟩, by decide +kernel, by decide⟩
theorem kv_X7_179 : KV RX7 179 mX3_changeOpening 2 := ⟨rfl, ⟨tb 1170 (by decide +kernel), (tb 667 (by decide +kernel)), (tb 668 (by decide +kernel)), (tb 3 (by decide +kernel)), tb 669 (by decide +kernel)⟩, ⟨by decide +kernel, by decide +kernel⟩, by decide +kernel, by decide⟩
theorem kv_X7_182 : KV RX7 182 mX3_changeCapacity 1 := ⟨rfl, ⟨tb 1171 (by decide +kernel), (tb 682 (by decide +kernel)), (tb 683 (by decide +kernel)), (tb 3 (by decide +kernel)), tb 684 (by decide +kernel)⟩, ⟨by decide +kernel, by decide +kernel⟩, by decide +kernel, by decide⟩
theorem kv_X7_185 : KV RX7 185 mX3_changeWind 1 := ⟨rfl, ⟨tb 1172 (by decide +kernel), (tb 697 (by decide +kernel)), (tb 698 (by decide +kernel)), (tb 3 (by decide +kernel)), tb 699 (by decide +kernel)⟩, ⟨by decide +kernel, by decide +kernel⟩, by decide +kernel, by decide⟩
theorem kv_X7_188 : KV RX7 188 mX3_closeWildJets 0 := ⟨rfl, ⟨tb 1173 (by decide +kernel), (tb 705 (by decide +kernel)), (tb 706 (by decide +kernel)), (tb 3 (by decide +kernel)), tb 707 (by decide +kernel)⟩, ⟨by decide +kernel, by decide +kernel⟩, by decide +kernel, by decide⟩
theorem kv_X7_191 : KV RX7 191 mX2_append 0 := ⟨rfl, ⟨tb 1174 (by decide +kernel), (tb 726 (by decide +kernel)), (tb 727 (by decide +kernel)), (tb 4 (by decide +kernel)), tb 728 (by decide +kernel)⟩, ⟨by decide +kernel, by decide +kernel⟩, by decide +kernel, by decide⟩
theorem kv_X7_193 : KV RX7 193 mX2_appendStep 4 := ⟨rfl, ⟨tb 1175 (by decide +kernel), (tb 790 (by decide +kernel)), (tb 791 (by decide +kernel)), (tb 4 (by decide +kernel)), tb 792 (by decide +kernel)⟩, ⟨by decide +kernel, by decide +kernel⟩, by decide +kernel, by decide⟩
theorem kv_X7_197 : KV RX7 197 mX7_appendEntry 2 := ⟨rfl, ⟨tb 1176 (by decide +kernel), (tb 805 (by decide +kernel)), (tb 806 (by decide +kernel)), (tb 2 (by decide +kernel)), tb 807 (by decide +kernel)⟩, ⟨by decide +kernel, by decide +kernel⟩, by decide +kernel, by decide⟩
theorem kv_X7_200 : KV RX7 200 mX7_passBeats 1 := ⟨rfl, ⟨tb 1177 (by decide +kernel), (tb 434 (by decide +kernel)), (tb 435 (by decide +kernel)), (tb 2 (by decide +kernel)), tb 436 (by decide +kernel)⟩, ⟨by decide +kernel, by decide +kernel⟩, by decide +kernel, by decide⟩
theorem kv_L_8 : KS RL 8 mL_cell 2 := ⟨rfl, ⟨tb 329 (by decide +kernel), (tb 330 (by decide +kernel)), (tb 0 (by decide +kernel)), tb 331 (by decide +kernel)⟩, ⟨by decide +kernel, by decide +kernel⟩, by decide +kernel, by decide⟩
theorem kv_L_14 : KV RL 14 mX8_addJet 1 := ⟨rfl, ⟨tb 505 (by decide +kernel), (tb 506 (by decide +kernel)), (tb 507 (by decide +kernel)), (tb 1 (by decide +kernel)), tb 508 (by decide +kernel)⟩, ⟨by decide +kernel, by decide +kernel⟩, by decide +kernel, by decide⟩
theorem kv_L_26 : KV RL 26 mX8_removeJet 1 := ⟨rfl, ⟨tb 618 (by decide +kernel), (tb 619 (by decide +kernel)), (tb 620 (by decide +kernel)), (tb 1 (by decide +kernel)), tb 621 (by decide +kernel)⟩, ⟨by decide +kernel, by decide +kernel⟩, by decide +kernel, by decide⟩
theorem kv_L_31 : KV RL 31 mX8_setOpening 2 := ⟨rfl, ⟨tb 655 (by decide +kernel), (tb 656 (by decide +kernel)), (tb 657 (by decide +kernel)), (tb 1 (by decide +kernel)), tb 658 (by decide +kernel)⟩, ⟨by decide +kernel, by decide +kernel⟩, by decide +kernel, by decide⟩
theorem kv_L_35 : KV RL 35 mX8_position 1 := ⟨rfl, ⟨tb 1196 (by decide +kernel), (tb 1197 (by decide +kernel)), (tb 1198 (by decide +kernel)), (tb 1 (by decide +kernel)), tb 1199 (by decide +kernel)⟩, ⟨by decide +kernel, by decide +kernel⟩, by decide +kernel, by decide⟩
theorem kv_L_38 : KV RL 38 mX8_opening 1 := ⟨rfl, ⟨tb 1203 (by decide +kernel), (tb 1204 (by decide +kernel)), (tb 1205 (by decide +kernel)), (tb 1 (by decide +kernel)), tb 1206 (by decide +kernel)⟩, ⟨by decide +kernel, by decide +kernel⟩, by decide +kernel, by decide⟩
theorem kv_L_41 : KV RL 41 mX8_height 1 := ⟨rfl, ⟨tb 1382 (by decide +kernel), (tb 1383 (by decide +kernel)), (tb 1384 (by decide +kernel)), (tb 1 (by decide +kernel)), tb 1385 (by decide +kernel)⟩, ⟨by decide +kernel, by decide +kernel⟩, by decide +kernel, by decide⟩
theorem kv_L_44 : KV RL 44 mX8_landing 1 := ⟨rfl, ⟨tb 1399 (by decide +kernel), (tb 1400 (by decide +kernel)), (tb 1401 (by decide +kernel)), (tb 1 (by decide +kernel)), tb 1402 (by decide +kernel)⟩, ⟨by decide +kernel, by decide +kernel⟩, by decide +kernel, by decide⟩
theorem kv_L_47 : KV RL 47 mX8_isWild 1 := ⟨rfl, ⟨tb 1390 (by decide +kernel), (tb 1391 (by decide +kernel)), (tb 1392 (by decide +kernel)), (tb 1 (by decide +kernel)), tb 1393 (by decide +kernel)⟩, ⟨by decide +kernel, by decide +kernel⟩, by decide +kernel, by decide⟩
theorem kv_L_51 : KV RL 51 mX8_highestJet 0 := ⟨rfl, ⟨tb 1419 (by decide +kernel), (tb 1420 (by decide +kernel)), (tb 1421 (by decide +kernel)), (tb 1 (by decide +kernel)), tb 1422 (by decide +kernel)⟩, ⟨by decide +kernel, by decide +kernel⟩, by decide +kernel, by decide⟩
theorem kv_L_57 : KV RL 57 mX8_jetByPosition 1 := ⟨rfl, ⟨tb 1406 (by decide +kernel), (tb 1407 (by decide +kernel)), (tb 1408 (by decide +kernel)), (tb 1 (by decide +kernel)), tb 1409 (by decide +kernel)⟩, ⟨by decide +kernel, by decide +kernel⟩, by decide +kernel, by decide⟩
theorem kv_L_60 : KV RL 60 mX8_nearestLanding 1 := ⟨rfl, ⟨tb 1435 (by decide +kernel), (tb 1436 (by decide +kernel)), (tb 1437 (by decide +kernel)), (tb 1 (by decide +kernel)), tb 1438 (by decide +kernel)⟩, ⟨by decide +kernel, by decide +kernel⟩, by decide +kernel, by decide⟩
theorem kv_L_63 : KV RL 63 mX8_setCapacity 1 := ⟨rfl, ⟨tb 673 (by decide +kernel), (tb 674 (by decide +kernel)), (tb 675 (by decide +kernel)), (tb 1 (by decide +kernel)), tb 676 (by decide +kernel)⟩, ⟨by decide +kernel, by decide +kernel⟩, by decide +kernel, by decide⟩
theorem kv_L_66 : KV RL 66 mX8_setWind 1 := ⟨rfl, ⟨tb 688 (by decide +kernel), (tb 689 (by decide +kernel)), (tb 690 (by decide +kernel)), (tb 1 (by decide +kernel)), tb 691 (by decide +kernel)⟩, ⟨by decide +kernel, by decide +kernel⟩, by decide +kernel, by decide⟩
theorem kv_L_69 : KV RL 69 mX8_addFigure 0 := ⟨rfl, ⟨tb 715 (by decide +kernel), (tb 716 (by decide +kernel)), (tb 717 (by decide +kernel)), (tb 1 (by decide +kernel)), tb 718 (by decide +kernel)⟩, ⟨by decide +kernel, by decide +kernel⟩, by decide +kernel, by decide⟩
theorem kv_L_72 : KV RL 72 mX8_removeFigure 1 := ⟨rfl, ⟨tb 732 (by decide +kernel), (tb 733 (by decide +kernel)), (tb 734 (by decide +kernel)), (tb 1 (by decide +kernel)), tb 735 (by decide +kernel)⟩, ⟨by decide +kernel, by decide +kernel⟩, by decide +kernel, by decide⟩
theorem kv_L_75 : KV RL 75 mX8_addStep 4 := ⟨rfl, ⟨tb 779 (by decide +kernel), (tb 780 (by decide +kernel)), (tb 781 (by decide +kernel)), (tb 1 (by decide +kernel)), tb 782 (by decide +kernel)⟩, ⟨by decide +kernel, by decide +kernel⟩, by decide +kernel, by decide⟩
theorem kv_L_79 : KV RL 79 mX8_removeStep 2 := ⟨rfl, ⟨tb 758 (by decide +kernel), (tb 759 (by decide +kernel)), (tb 760 (by decide +kernel)), (tb 1 (by decide +kernel)), tb 761 (by decide +kernel)⟩, ⟨by decide +kernel, by decide +kernel⟩, by decide +kernel, by decide⟩
theorem kv_L_82 : KV RL 82 mX8_stepCount 1 := ⟨rfl, ⟨tb 1516 (by decide +kernel), (tb 1517 (by decide +kernel)), (tb 1518 (by decide +kernel)), (tb 1 (by decide +kernel)), tb 1519 (by decide +kernel)⟩, ⟨by decide +kernel, by decide +kernel⟩, by decide +kernel, by decide⟩
theorem kv_L_85 : KV RL 85 mX8_stepDelay 2 := ⟨rfl, ⟨tb 1523 (by decide +kernel), (tb 1524 (by decide +kernel)), (tb 1525 (by decide +kernel)), (tb 1 (by decide +kernel)), tb 1526 (by decide +kernel)⟩, ⟨by decide +kernel, by decide +kernel⟩, by decide +kernel, by decide⟩
theorem kv_L_88 : KV RL 88 mX8_stepJet 2 := ⟨rfl, ⟨tb 1531 (by decide +kernel), (tb 1532 (by decide +kernel)), (tb 1533 (by decide +kernel)), (tb 1 (by decide +kernel)), tb 1534 (by decide +kernel)⟩, ⟨by decide +kernel, by decide +kernel⟩, by decide +kernel, by decide⟩
theorem kv_L_91 : KV RL 91 mX8_stepOpening 2 := ⟨rfl, ⟨tb 1538 (by decide +kernel), (tb 1539 (by decide +kernel)), (tb 1540 (by decide +kernel)), (tb 1 (by decide +kernel)), tb 1541 (by decide +kernel)⟩, ⟨by decide +kernel, by decide +kernel⟩, by decide +kernel, by decide⟩
theorem kv_L_94 : KV RL 94 mX8_figureLength 1 := ⟨rfl, ⟨tb 1545 (by decide +kernel), (tb 1546 (by decide +kernel)), (tb 1547 (by decide +kernel)), (tb 1 (by decide +kernel)), tb 1548 (by decide +kernel)⟩, ⟨by decide +kernel, by decide +kernel⟩, by decide +kernel, by decide⟩
theorem kv_L_97 : KV RL 97 mX8_figuresUsing 1 := ⟨rfl, ⟨tb 1456 (by decide +kernel), (tb 1457 (by decide +kernel)), (tb 1458 (by decide +kernel)), (tb 1 (by decide +kernel)), tb 1459 (by decide +kernel)⟩, ⟨by decide +kernel, by decide +kernel⟩, by decide +kernel, by decide⟩
theorem kv_L_100 : KV RL 100 mX8_play 2 := ⟨rfl, ⟨tb 796 (by decide +kernel), (tb 797 (by decide +kernel)), (tb 798 (by decide +kernel)), (tb 1 (by decide +kernel)), tb 799 (by decide +kernel)⟩, ⟨by decide +kernel, by decide +kernel⟩, by decide +kernel, by decide⟩
theorem kv_L_103 : KV RL 103 mX8_cancel 1 := ⟨rfl, ⟨tb 811 (by decide +kernel), (tb 812 (by decide +kernel)), (tb 813 (by decide +kernel)), (tb 1 (by decide +kernel)), tb 814 (by decide +kernel)⟩, ⟨by decide +kernel, by decide +kernel⟩, by decide +kernel, by decide⟩
theorem kv_L_106 : KV RL 106 mX8_pass 1 := ⟨rfl, ⟨tb 827 (by decide +kernel), (tb 828 (by decide +kernel)), (tb 829 (by decide +kernel)), (tb 1 (by decide +kernel)), tb 830 (by decide +kernel)⟩, ⟨by decide +kernel, by decide +kernel⟩, by decide +kernel, by decide⟩
theorem kv_L_109 : KV RL 109 mX8_entryFigure 1 := ⟨rfl, ⟨tb 1321 (by decide +kernel), (tb 1322 (by decide +kernel)), (tb 1323 (by decide +kernel)), (tb 1 (by decide +kernel)), tb 1324 (by decide +kernel)⟩, ⟨by decide +kernel, by decide +kernel⟩, by decide +kernel, by decide⟩
theorem kv_L_112 : KV RL 112 mX8_entryStart 1 := ⟨rfl, ⟨tb 1314 (by decide +kernel), (tb 1315 (by decide +kernel)), (tb 1316 (by decide +kernel)), (tb 1 (by decide +kernel)), tb 1317 (by decide +kernel)⟩, ⟨by decide +kernel, by decide +kernel⟩, by decide +kernel, by decide⟩
theorem kv_L_115 : KV RL 115 mX8_demandAfter 1 := ⟨rfl, ⟨tb 337 (by decide +kernel), (tb 338 (by decide +kernel)), (tb 339 (by decide +kernel)), (tb 1 (by decide +kernel)), tb 340 (by decide +kernel)⟩, ⟨by decide +kernel, by decide +kernel⟩, by decide +kernel, by decide⟩
theorem kv_L_118 : KV RL 118 mX8_demandAfterBySteps 1 := ⟨rfl, ⟨tb 1331 (by decide +kernel), (tb 1332 (by decide +kernel)), (tb 1333 (by decide +kernel)), (tb 1 (by decide +kernel)), tb 1334 (by decide +kernel)⟩, ⟨by decide +kernel, by decide +kernel⟩, by decide +kernel, by decide⟩
theorem kv_L_121 : KV RL 121 mX8_firstOverload 1 := ⟨rfl, ⟨tb 468 (by decide +kernel), (tb 469 (by decide +kernel)), (tb 470 (by decide +kernel)), (tb 1 (by decide +kernel)), tb 471 (by decide +kernel)⟩, ⟨by decide +kernel, by decide +kernel⟩, by decide +kernel, by decide⟩
theorem kv_L_124 : KV RL 124 mX8_meanOpening 0 := ⟨rfl, ⟨tb 1494 (by decide +kernel), (tb 1495 (by decide +kernel)), (tb 1496 (by decide +kernel)), (tb 1 (by decide +kernel)), tb 1497 (by decide +kernel)⟩, ⟨by decide +kernel, by decide +kernel⟩, by decide +kernel, by decide⟩
theorem kv_L_132 : KV RL 132 mX8_supplyFraction 0 := ⟨rfl, ⟨tb 1504 (by decide +kernel), (tb 1505 (by decide +kernel)), (tb 1506 (by decide +kernel)), (tb 1 (by decide +kernel)), tb 1507 (by decide +kernel)⟩, ⟨by decide +kernel, by decide +kernel⟩, by decide +kernel, by decide⟩
theorem kv_L_137 : KV RL 137 mX8_writeFigure 1 := ⟨rfl, ⟨tb 1210 (by decide +kernel), (tb 1211 (by decide +kernel)), (tb 1212 (by decide +kernel)), (tb 1 (by decide +kernel)), tb 1213 (by decide +kernel)⟩, ⟨by decide +kernel, by decide +kernel⟩, by decide +kernel, by decide⟩
theorem kv_L_140 : KV RL 140 mX8_outputCharacter 1 := ⟨rfl, ⟨tb 1295 (by decide +kernel), (tb 1296 (by decide +kernel)), (tb 1297 (by decide +kernel)), (tb 1 (by decide +kernel)), tb 1298 (by decide +kernel)⟩, ⟨by decide +kernel, by decide +kernel⟩, by decide +kernel, by decide⟩
theorem kv_L_144 : KV RL 144 mX8_feed 1 := ⟨rfl, ⟨tb 1076 (by decide +kernel), (tb 1077 (by decide +kernel)), (tb 1078 (by decide +kernel)), (tb 1 (by decide +kernel)), tb 1079 (by decide +kernel)⟩, ⟨by decide +kernel, by decide +kernel⟩, by decide +kernel, by decide⟩
theorem kv_L_148 : KV RL 148 mX8_execute 0 := ⟨rfl, ⟨tb 1092 (by decide +kernel), (tb 1093 (by decide +kernel)), (tb 1094 (by decide +kernel)), (tb 1 (by decide +kernel)), tb 1095 (by decide +kernel)⟩, ⟨by decide +kernel, by decide +kernel⟩, by decide +kernel, by decide⟩
theorem kv_L_157 : KV RL 157 mX8_undo 0 := ⟨rfl, ⟨tb 1560 (by decide +kernel), (tb 1561 (by decide +kernel)), (tb 1562 (by decide +kernel)), (tb 1 (by decide +kernel)), tb 1563 (by decide +kernel)⟩, ⟨by decide +kernel, by decide +kernel⟩, by decide +kernel, by decide⟩
theorem kv_L_160 : KV RL 160 mX8_restore 0 := ⟨rfl, ⟨tb 1568 (by decide +kernel), (tb 1569 (by decide +kernel)), (tb 1570 (by decide +kernel)), (tb 1 (by decide +kernel)), tb 1571 (by decide +kernel)⟩, ⟨by decide +kernel, by decide +kernel⟩, by decide +kernel, by decide⟩
theorem kv_L_180 : KI RL 180 mX8_init 0 := ⟨rfl, ⟨tb 36 (by decide +kernel), (tb 37 (by decide +kernel)), rfl, rfl, (tb 1 (by decide +kernel)), tb 38 (by decide +kernel)⟩, ⟨by decide +kernel, by decide +kernel⟩, by decide +kernel, by decide⟩
theorem kv_L_181 : KS RL 181 mL_sum 1 := ⟨rfl, ⟨tb 1180 (by decide +kernel), (tb 1181 (by decide +kernel)), (tb 0 (by decide +kernel)), tb 1182 (by decide +kernel)⟩, ⟨by decide +kernel, by decide +kernel⟩, by decide +kernel, by decide⟩
theorem kv_L_185 : KV RL 185 mX8_undoCount 0 := ⟨rfl, ⟨tb 322 (by decide +kernel), (tb 323 (by decide +kernel)), (tb 324 (by decide +kernel)), (tb 1 (by decide +kernel)), tb 325 (by decide +kernel)⟩, ⟨by decide +kernel, by decide +kernel⟩, by decide +kernel, by decide⟩
theorem kv_L_188 : KS RL 188 mL_pick 3 := ⟨rfl, ⟨tb 326 (by decide +kernel), (tb 327 (by decide +kernel)), (tb 0 (by decide +kernel)), tb 328 (by decide +kernel)⟩, ⟨by decide +kernel, by decide +kernel⟩, by decide +kernel, by decide⟩
theorem kv_L_192 : KV RL 192 mX8_demand 0 := ⟨rfl, ⟨tb 286 (by decide +kernel), (tb 287 (by decide +kernel)), (tb 288 (by decide +kernel)), (tb 1 (by decide +kernel)), tb 289 (by decide +kernel)⟩, ⟨by decide +kernel, by decide +kernel⟩, by decide +kernel, by decide⟩
theorem kv_L_197 : KV RL 197 mX8_beatsUntilEmpty 0 := ⟨rfl, ⟨tb 307 (by decide +kernel), (tb 308 (by decide +kernel)), (tb 309 (by decide +kernel)), (tb 1 (by decide +kernel)), tb 310 (by decide +kernel)⟩, ⟨by decide +kernel, by decide +kernel⟩, by decide +kernel, by decide⟩
theorem kv_L_200 : KV RL 200 mX8_beat 0 := ⟨rfl, ⟨tb 299 (by decide +kernel), (tb 300 (by decide +kernel)), (tb 301 (by decide +kernel)), (tb 1 (by decide +kernel)), tb 302 (by decide +kernel)⟩, ⟨by decide +kernel, by decide +kernel⟩, by decide +kernel, by decide⟩
theorem kv_L_203 : KV RL 203 mX8_queueLength 0 := ⟨rfl, ⟨tb 303 (by decide +kernel), (tb 304 (by decide +kernel)), (tb 305 (by decide +kernel)), (tb 1 (by decide +kernel)), tb 306 (by decide +kernel)⟩, ⟨by decide +kernel, by decide +kernel⟩, by decide +kernel, by decide⟩
theorem kv_L_206 : KV RL 206 mX8_pumped 0 := ⟨rfl, ⟨tb 291 (by decide +kernel), (tb 292 (by decide +kernel)), (tb 293 (by decide +kernel)), (tb 1 (by decide +kernel)), tb 294 (by decide +kernel)⟩, ⟨by decide +kernel, by decide +kernel⟩, by decide +kernel, by decide⟩
theorem kv_L_210 : KV RL 210 mX8_shortage 0 := ⟨rfl, ⟨tb 295 (by decide +kernel), (tb 296 (by decide +kernel)), (tb 297 (by decide +kernel)), (tb 1 (by decide +kernel)), tb 298 (by decide +kernel)⟩, ⟨by decide +kernel, by decide +kernel⟩, by decide +kernel, by decide⟩
theorem kv_L_215 : KS RL 215 mL_does 5 := ⟨rfl, ⟨tb 489 (by decide +kernel), (tb 490 (by decide +kernel)), (tb 0 (by decide +kernel)), tb 491 (by decide +kernel)⟩, ⟨by decide +kernel, by decide +kernel⟩, by decide +kernel, by decide⟩
theorem kv_L_219 : KV RL 219 mX8_wildCount 0 := ⟨rfl, ⟨tb 263 (by decide +kernel), (tb 264 (by decide +kernel)), (tb 265 (by decide +kernel)), (tb 1 (by decide +kernel)), tb 266 (by decide +kernel)⟩, ⟨by decide +kernel, by decide +kernel⟩, by decide +kernel, by decide⟩
theorem kv_L_222 : KS RL 222 mL_isWhole 4 := ⟨rfl, ⟨tb 1325 (by decide +kernel), (tb 1326 (by decide +kernel)), (tb 0 (by decide +kernel)), tb 1327 (by decide +kernel)⟩, ⟨by decide +kernel, by decide +kernel⟩, by decide +kernel, by decide⟩
theorem kv_L_226 : KS RL 226 mL_isKept 3 := ⟨rfl, ⟨tb 1550 (by decide +kernel), (tb 1551 (by decide +kernel)), (tb 0 (by decide +kernel)), tb 1552 (by decide +kernel)⟩, ⟨by decide +kernel, by decide +kernel⟩, by decide +kernel, by decide⟩
theorem kv_L_230 : KV RL 230 mX8_jetCount 0 := ⟨rfl, ⟨tb 492 (by decide +kernel), (tb 493 (by decide +kernel)), (tb 494 (by decide +kernel)), (tb 1 (by decide +kernel)), tb 495 (by decide +kernel)⟩, ⟨by decide +kernel, by decide +kernel⟩, by decide +kernel, by decide⟩
theorem kv_L_233 : KV RL 233 mX8_figureCount 0 := ⟨rfl, ⟨tb 496 (by decide +kernel), (tb 497 (by decide +kernel)), (tb 498 (by decide +kernel)), (tb 1 (by decide +kernel)), tb 499 (by decide +kernel)⟩, ⟨by decide +kernel, by decide +kernel⟩, by decide +kernel, by decide⟩
theorem kv_L_247 : KV RL 247 mX8_trim 0 := ⟨rfl, ⟨tb 700 (by decide +kernel), (tb 701 (by decide +kernel)), (tb 702 (by decide +kernel)), (tb 1 (by decide +kernel)), tb 703 (by decide +kernel)⟩, ⟨by decide +kernel, by decide +kernel⟩, by decide +kernel, by decide⟩
theorem kv_L_291 : KS RL 291 mL_runs 2 := ⟨rfl, ⟨tb 1045 (by decide +kernel), (tb 1046 (by decide +kernel)), (tb 0 (by decide +kernel)), tb 1047 (by decide +kernel)⟩, ⟨by decide +kernel, by decide +kernel⟩, by decide +kernel, by decide⟩
theorem kv_L_297 : KV RL 297 mX8_capacity 0 := ⟨rfl, ⟨tb 1184 (by decide +kernel), (tb 1185 (by decide +kernel)), (tb 1186 (by decide +kernel)), (tb 1 (by decide +kernel)), tb 1187 (by decide +kernel)⟩, ⟨by decide +kernel, by decide +kernel⟩, by decide +kernel, by decide⟩
theorem kv_L_302 : KV RL 302 mX8_wind 0 := ⟨rfl, ⟨tb 1189 (by decide +kernel), (tb 1190 (by decide +kernel)), (tb 1191 (by decide +kernel)), (tb 1 (by decide +kernel)), tb 1192 (by decide +kernel)⟩, ⟨by decide +kernel, by decide +kernel⟩, by decide +kernel, by decide⟩
theorem kv_L_317 : KV RL 317 mX8_supply 0 := ⟨rfl, ⟨tb 1374 (by decide +kernel), (tb 1375 (by decide +kernel)), (tb 1376 (by decide +kernel)), (tb 1 (by decide +kernel)), tb 1377 (by decide +kernel)⟩, ⟨by decide +kernel, by decide +kernel⟩, by decide +kernel, by decide⟩
theorem kv_L_342 : KV RL 342 mX8_crossings 0 := ⟨rfl, ⟨tb 1469 (by decide +kernel), (tb 1470 (by decide +kernel)), (tb 1471 (by decide +kernel)), (tb 1 (by decide +kernel)), tb 1472 (by decide +kernel)⟩, ⟨by decide +kernel, by decide +kernel⟩, by decide +kernel, by decide⟩
theorem kv_L_345 : KV RL 345 mX8_crossingsByMerging 0 := ⟨rfl, ⟨tb 1473 (by decide +kernel), (tb 1474 (by decide +kernel)), (tb 1475 (by decide +kernel)), (tb 1 (by decide +kernel)), tb 1476 (by decide +kernel)⟩, ⟨by decide +kernel, by decide +kernel⟩, by decide +kernel, by decide⟩
theorem kv_L_369 : KV RL 369 mX8_isConsistent 0 := ⟨rfl, ⟨tb 1343 (by decide +kernel), (tb 1344 (by decide +kernel)), (tb 1345 (by decide +kernel)), (tb 1 (by decide +kernel)), tb 1346 (by decide +kernel)⟩, ⟨by decide +kernel, by decide +kernel⟩, by decide +kernel, by decide⟩
theorem kv_L_373 : KS RL 373 mL_areJets 2 := ⟨rfl, ⟨tb 1371 (by decide +kernel), (tb 1372 (by decide +kernel)), (tb 0 (by decide +kernel)), tb 1373 (by decide +kernel)⟩, ⟨by decide +kernel, by decide +kernel⟩, by decide +kernel, by decide⟩
theorem kv_L_377 : KS RL 377 mL_areFigures 1 := ⟨rfl, ⟨tb 1510 (by decide +kernel), (tb 1511 (by decide +kernel)), (tb 0 (by decide +kernel)), tb 1512 (by decide +kernel)⟩, ⟨by decide +kernel, by decide +kernel⟩, by decide +kernel, by decide⟩
theorem kv_L_381 : KV RL 381 mX8_save 0 := ⟨rfl, ⟨tb 1553 (by decide +kernel), (tb 1554 (by decide +kernel)), (tb 1555 (by decide +kernel)), (tb 1 (by decide +kernel)), tb 1556 (by decide +kernel)⟩, ⟨by decide +kernel, by decide +kernel⟩, by decide +kernel, by decide⟩
