/-! The law's wrappers: a call of the show, or a number for what it throws. -/
theorem rx_x {es : List String} {p : Nat} {v : Value} {E : String} (h : (.inr E : AR) = rx es p v) : ¬ p = 0 ∧ E = es.getD (p - 1) "" := by
  unfold rx at h
  by_cases q : p = 0
  · rw [if_pos q] at h; cases h
  · rw [if_neg q] at h; cases h; exact ⟨q, rfl⟩
theorem rx_n {es : List String} {p : Nat} {v : Value} {w : Option Value} (h : (.inl w : AR) = rx es p v) : p = 0 ∧ w = some v := by
  unfold rx at h
  by_cases q : p = 0
  · rw [if_pos q] at h; cases h; exact ⟨q, rfl⟩
  · rw [if_neg q] at h; cases h
/-- an answer, or the number of what is thrown -/
def rn (ns : List Int32) (p : Nat) (v : Int32) : Int32 := if p = 0 then v else ns.getD (p - 1) 0
theorem rn_0 {ns : List Int32} {p : Nat} {v : Int32} (h : p = 0) : rn ns p v = v := if_pos h
theorem bI_e0 {b : Bool} (h : bI b = 0) : (0 : Int32) = bI b := h.symm
theorem bI_e1 {b : Bool} (h : ¬ bI b = 0) : (1 : Int32) = bI b := by cases b with
  | false => exact absurd rfl h
  | true => rfl
section
variable {G : GA} {F F' F2 : AH} {c bv bv' ob p : Nat} {X X' : XS} {es : List String} {v : Value} {E : String}
theorem exC_le {X : XS} : exC X ≤ 2 := by unfold exC; split; omega; split <;> omega
theorem kl_L_7 : Cond.constant RL 7 40503 ∈ lw_tbl := tb 332 (by decide +kernel)
theorem kl_L_295 : Cond.constantLong RL 295 31 ∈ lw_tbl := tb 1183 (by decide +kernel)
theorem kl_L_300 : Cond.constantLong RL 300 101 ∈ lw_tbl := tb 1188 (by decide +kernel)
theorem kl_L_311 : Cond.constantLong RL 311 1009 ∈ lw_tbl := tb 1310 (by decide +kernel)
theorem kl_L_130 : Cond.constantDouble RL 130 13888230437601411072 ∈ lw_tbl := tb 1500 (by decide +kernel)
theorem kl_L_136 : Cond.constantFloat RL 136 3320266752 ∈ lw_tbl := tb 1509 (by decide +kernel)
theorem km_L_332 : KM1 RL 332 Lib.Math.abs.name Lib.Math.abs.code .int := ⟨tb 1450 (by decide +kernel), tb 1451 (by decide +kernel), tb 20 (by decide +kernel), tb 1452 (by decide +kernel)⟩
theorem hx_addJet_0 : HX mL_addJet 2 "java/lang/IllegalArgumentException" [] (0, 5, 6, 20) := ⟨⟨[(0, 5, 11, 22), (0, 5, 16, 24)], rfl⟩, fun z hz => absurd hz List.not_mem_nil, by decide +kernel, by decide, "java/lang/IllegalArgumentException", tb 336 (by decide +kernel), tb 346 (by decide +kernel)⟩
theorem hx_addJet_1 : HX mL_addJet 2 "java/lang/UnsupportedOperationException" [(0, 5, 6, 20)] (0, 5, 11, 22) := ⟨⟨[(0, 5, 16, 24)], rfl⟩, (fun z hz => by
    rcases (by simpa using hz : z = (0, 5, 6, 20)) with rfl
    · exact ⟨by decide, "java/lang/IllegalArgumentException", tb 336 (by decide +kernel), by decide +kernel⟩), by decide +kernel, by decide, "java/lang/UnsupportedOperationException", tb 503 (by decide +kernel), tb 555 (by decide +kernel)⟩
theorem hx_addJet_2 : HX mL_addJet 2 "java/lang/IllegalStateException" [(0, 5, 6, 20), (0, 5, 11, 22)] (0, 5, 16, 24) := ⟨⟨[], rfl⟩, (fun z hz => by
    rcases (by simpa using hz : z = (0, 5, 6, 20) ∨ z = (0, 5, 11, 22)) with rfl | rfl
    · exact ⟨by decide, "java/lang/IllegalArgumentException", tb 336 (by decide +kernel), by decide +kernel⟩
    · exact ⟨by decide, "java/lang/UnsupportedOperationException", tb 503 (by decide +kernel), by decide +kernel⟩), by decide +kernel, by decide, "java/lang/IllegalStateException", tb 504 (by decide +kernel), tb 571 (by decide +kernel)⟩
set_option maxRecDepth 100000 in
set_option maxHeartbeats 1000000 in
theorem L_addJet_ok {B : Nat} (hC : CX G F c bv X) (x : Int32) (ha : gN G ≤ c) (hI : SQ X.sg B) : AC G mL_addJet 12 1 6 [.ref c, .int x] F (XQ G c bv (chX X (aJet X.sg x) (pAdd X.sg.J x - 1)) (.inl (some (.int (rn [-7800, -7600, -7900] (pAdd X.sg.J x - 1) (nI X.sg.J.length))))) F) := by
  have hpr : (pAdd X.sg.J x - 1) ≤ 3 := by have := pAdd_v (J := X.sg.J) (x := x); omega
  have hK := X8_addJet_ok hC ha hI x
  obtain ⟨hn, hf, ⟨c0, -⟩, -⟩ := hC
  refine AC.ofH [some (.ref c), some (.int x), none] rfl (by decide) (Nat.le_of_ble_eq_true rfl) rfl ?_
  refine AF.aload_n dL_addJet_0 rfl ?_
  refine AF.iload_n dL_addJet_1 rfl ?_
  refine AF.callVH (bc := 0) (bs := 0) (mc' := 1) (ms' := 6) dL_addJet_2 kv_L_14 hK c0 rfl rfl rfl (Nat.le_of_ble_eq_true rfl) (by decide) (fun E F' q => ?_) (fun v F' q => ?_)
  · obtain ⟨e1, e2⟩ := rx_x q.1
    rcases (by omega : (pAdd X.sg.J x - 1) = 1 ∨ (pAdd X.sg.J x - 1) = 2 ∨ (pAdd X.sg.J x - 1) = 3) with hp | hp | hp
    · rw [hp] at e2
      subst e2
      refine ⟨_, _, hx_addJet_0, fun q9 => ?_⟩
      refine AF.astore_n dL_addJet_6 (by decide) ?_
      refine AF.sipush (-7800) dL_addJet_7 (by decide) ?_
      exact AF.ireturn dL_addJet_10 rfl ⟨by rw [hp]; rfl, q.2⟩
    · rw [hp] at e2
      subst e2
      refine ⟨_, _, hx_addJet_1, fun q9 => ?_⟩
      refine AF.astore_n dL_addJet_11 (by decide) ?_
      refine AF.sipush (-7600) dL_addJet_12 (by decide) ?_
      exact AF.ireturn dL_addJet_15 rfl ⟨by rw [hp]; rfl, q.2⟩
    · rw [hp] at e2
      subst e2
      refine ⟨_, _, hx_addJet_2, fun q9 => ?_⟩
      refine AF.astore_n dL_addJet_16 (by decide) ?_
      refine AF.sipush (-7900) dL_addJet_17 (by decide) ?_
      exact AF.ireturn dL_addJet_20 rfl ⟨by rw [hp]; rfl, q.2⟩
  · obtain ⟨hp, rfl⟩ := rx_n q.1
    exact AF.ireturn dL_addJet_5 rfl ⟨by rw [hp]; rfl, q.2⟩
theorem hx_removeJet_0 : HX mL_removeJet 2 "java/lang/IndexOutOfBoundsException" [] (0, 5, 6, 29) := ⟨⟨[], rfl⟩, fun z hz => absurd hz List.not_mem_nil, by decide +kernel, by decide, "java/lang/IndexOutOfBoundsException", tb 597 (by decide +kernel), tb 538 (by decide +kernel)⟩
set_option maxRecDepth 100000 in
set_option maxHeartbeats 1000000 in
theorem L_removeJet_ok {B : Nat} (hC : CX G F c bv X) (x : Int32) (ha : gN G ≤ c) (hI : SQ X.sg B) : AC G mL_removeJet 12 1 6 [.ref c, .int x] F (XQ G c bv (chX X (aRmJ X.sg x) (if hasB X.sg.J.length x = true then 0 else 1)) (.inl (some (.int (rn [-7700] (if hasB X.sg.J.length x = true then 0 else 1) (nI (sumN (rmC (cl x) X.sg.Fg) X.sg.Fg.length)))))) F) := by
  have hpr : (if hasB X.sg.J.length x = true then 0 else 1) ≤ 1 := by split <;> omega
  have hK := X8_removeJet_ok hC ha hI x
  obtain ⟨hn, hf, ⟨c0, -⟩, -⟩ := hC
  refine AC.ofH [some (.ref c), some (.int x), none] rfl (by decide) (Nat.le_of_ble_eq_true rfl) rfl ?_
  refine AF.aload_n dL_removeJet_0 rfl ?_
  refine AF.iload_n dL_removeJet_1 rfl ?_
  refine AF.callVH (bc := 0) (bs := 0) (mc' := 1) (ms' := 6) dL_removeJet_2 kv_L_26 hK c0 rfl rfl rfl (Nat.le_of_ble_eq_true rfl) (by decide) (fun E F' q => ?_) (fun v F' q => ?_)
  · obtain ⟨e1, e2⟩ := rx_x q.1
    rcases (by omega : (if hasB X.sg.J.length x = true then 0 else 1) = 1) with hp
    · rw [hp] at e2
      subst e2
      refine ⟨_, _, hx_removeJet_0, fun q9 => ?_⟩
      refine AF.astore_n dL_removeJet_6 (by decide) ?_
      refine AF.sipush (-7700) dL_removeJet_7 (by decide) ?_
      exact AF.ireturn dL_removeJet_10 rfl ⟨by rw [hp]; rfl, q.2⟩
  · obtain ⟨hp, rfl⟩ := rx_n q.1
    exact AF.ireturn dL_removeJet_5 rfl ⟨by rw [hp]; rfl, q.2⟩
theorem hx_setOpening_0 : HX mL_setOpening 3 "java/lang/IndexOutOfBoundsException" [] (0, 6, 7, 29) := ⟨⟨[(0, 6, 12, 20)], rfl⟩, fun z hz => absurd hz List.not_mem_nil, by decide +kernel, by decide, "java/lang/IndexOutOfBoundsException", tb 597 (by decide +kernel), tb 538 (by decide +kernel)⟩
theorem hx_setOpening_1 : HX mL_setOpening 3 "java/lang/IllegalArgumentException" [(0, 6, 7, 29)] (0, 6, 12, 20) := ⟨⟨[], rfl⟩, (fun z hz => by
    rcases (by simpa using hz : z = (0, 6, 7, 29)) with rfl
    · exact ⟨by decide, "java/lang/IndexOutOfBoundsException", tb 597 (by decide +kernel), by decide +kernel⟩), by decide +kernel, by decide, "java/lang/IllegalArgumentException", tb 336 (by decide +kernel), tb 346 (by decide +kernel)⟩
set_option maxRecDepth 100000 in
set_option maxHeartbeats 1000000 in
theorem L_setOpening_ok {B : Nat} (hC : CX G F c bv X) (x y : Int32) (ha : gN G ≤ c) (hI : SQ X.sg B) : AC G mL_setOpening 12 1 6 [.ref c, .int x, .int y] F (XQ G c bv (chX X (aOpn X.sg x y) (pOpn X.sg.J.length x y)) (.inl (some (.int (rn [-7700, -7800] (pOpn X.sg.J.length x y) (nI (jo X.sg.J (cl x))))))) F) := by
  have hpr : (pOpn X.sg.J.length x y) ≤ 2 := by have := pOpn_v (n := X.sg.J.length) (x := x) (y := y); omega
  have hK := X8_setOpening_ok hC ha hI x y
  obtain ⟨hn, hf, ⟨c0, -⟩, -⟩ := hC
  refine AC.ofH [some (.ref c), some (.int x), some (.int y), none] rfl (by decide) (Nat.le_of_ble_eq_true rfl) rfl ?_
  refine AF.aload_n dL_setOpening_0 rfl ?_
  refine AF.iload_n dL_setOpening_1 rfl ?_
  refine AF.iload_n dL_setOpening_2 rfl ?_
  refine AF.callVH (bc := 0) (bs := 0) (mc' := 1) (ms' := 6) dL_setOpening_3 kv_L_31 hK c0 rfl rfl rfl (Nat.le_of_ble_eq_true rfl) (by decide) (fun E F' q => ?_) (fun v F' q => ?_)
  · obtain ⟨e1, e2⟩ := rx_x q.1
    rcases (by omega : (pOpn X.sg.J.length x y) = 1 ∨ (pOpn X.sg.J.length x y) = 2) with hp | hp
    · rw [hp] at e2
      subst e2
      refine ⟨_, _, hx_setOpening_0, fun q9 => ?_⟩
      refine AF.astore_n dL_setOpening_7 (by decide) ?_
      refine AF.sipush (-7700) dL_setOpening_8 (by decide) ?_
      exact AF.ireturn dL_setOpening_11 rfl ⟨by rw [hp]; rfl, q.2⟩
    · rw [hp] at e2
      subst e2
      refine ⟨_, _, hx_setOpening_1, fun q9 => ?_⟩
      refine AF.astore_n dL_setOpening_12 (by decide) ?_
      refine AF.sipush (-7800) dL_setOpening_13 (by decide) ?_
      exact AF.ireturn dL_setOpening_16 rfl ⟨by rw [hp]; rfl, q.2⟩
  · obtain ⟨hp, rfl⟩ := rx_n q.1
    exact AF.ireturn dL_setOpening_6 rfl ⟨by rw [hp]; rfl, q.2⟩
theorem hx_position_0 : HX mL_position 2 "java/lang/IndexOutOfBoundsException" [] (0, 5, 6, 29) := ⟨⟨[], rfl⟩, fun z hz => absurd hz List.not_mem_nil, by decide +kernel, by decide, "java/lang/IndexOutOfBoundsException", tb 597 (by decide +kernel), tb 538 (by decide +kernel)⟩
set_option maxRecDepth 100000 in
set_option maxHeartbeats 1000000 in
theorem L_position_ok (hC : CX G F c bv X) (x : Int32) : AC G mL_position 12 1 6 [.ref c, .int x] F (XQ G c bv X (.inl (some (.int (rn [-7700] (if hasB X.sg.J.length x = true then 0 else 1) (nI (jp X.sg.J (cl x))))))) F) := by
  have hpr : (if hasB X.sg.J.length x = true then 0 else 1) ≤ 1 := by split <;> omega
  have hK := X8_position_ok hC x
  obtain ⟨hn, hf, ⟨c0, -⟩, -⟩ := hC
  refine AC.ofH [some (.ref c), some (.int x), none] rfl (by decide) (Nat.le_of_ble_eq_true rfl) rfl ?_
  refine AF.aload_n dL_position_0 rfl ?_
  refine AF.iload_n dL_position_1 rfl ?_
  refine AF.callVH (bc := 0) (bs := 0) (mc' := 1) (ms' := 6) dL_position_2 kv_L_35 hK c0 rfl rfl rfl (Nat.le_of_ble_eq_true rfl) (by decide) (fun E F' q => ?_) (fun v F' q => ?_)
  · obtain ⟨e1, e2⟩ := rx_x q.1
    rcases (by omega : (if hasB X.sg.J.length x = true then 0 else 1) = 1) with hp
    · rw [hp] at e2
      subst e2
      refine ⟨_, _, hx_position_0, fun q9 => ?_⟩
      refine AF.astore_n dL_position_6 (by decide) ?_
      refine AF.sipush (-7700) dL_position_7 (by decide) ?_
      exact AF.ireturn dL_position_10 rfl ⟨by rw [hp]; rfl, q.2⟩
  · obtain ⟨hp, rfl⟩ := rx_n q.1
    exact AF.ireturn dL_position_5 rfl ⟨by rw [hp]; rfl, q.2⟩
theorem hx_opening_0 : HX mL_opening 2 "java/lang/IndexOutOfBoundsException" [] (0, 5, 6, 29) := ⟨⟨[], rfl⟩, fun z hz => absurd hz List.not_mem_nil, by decide +kernel, by decide, "java/lang/IndexOutOfBoundsException", tb 597 (by decide +kernel), tb 538 (by decide +kernel)⟩
set_option maxRecDepth 100000 in
set_option maxHeartbeats 1000000 in
theorem L_opening_ok (hC : CX G F c bv X) (x : Int32) : AC G mL_opening 12 1 6 [.ref c, .int x] F (XQ G c bv X (.inl (some (.int (rn [-7700] (if hasB X.sg.J.length x = true then 0 else 1) (nI (jo X.sg.J (cl x))))))) F) := by
  have hpr : (if hasB X.sg.J.length x = true then 0 else 1) ≤ 1 := by split <;> omega
  have hK := X8_opening_ok hC x
  obtain ⟨hn, hf, ⟨c0, -⟩, -⟩ := hC
  refine AC.ofH [some (.ref c), some (.int x), none] rfl (by decide) (Nat.le_of_ble_eq_true rfl) rfl ?_
  refine AF.aload_n dL_opening_0 rfl ?_
  refine AF.iload_n dL_opening_1 rfl ?_
  refine AF.callVH (bc := 0) (bs := 0) (mc' := 1) (ms' := 6) dL_opening_2 kv_L_38 hK c0 rfl rfl rfl (Nat.le_of_ble_eq_true rfl) (by decide) (fun E F' q => ?_) (fun v F' q => ?_)
  · obtain ⟨e1, e2⟩ := rx_x q.1
    rcases (by omega : (if hasB X.sg.J.length x = true then 0 else 1) = 1) with hp
    · rw [hp] at e2
      subst e2
      refine ⟨_, _, hx_opening_0, fun q9 => ?_⟩
      refine AF.astore_n dL_opening_6 (by decide) ?_
      refine AF.sipush (-7700) dL_opening_7 (by decide) ?_
      exact AF.ireturn dL_opening_10 rfl ⟨by rw [hp]; rfl, q.2⟩
  · obtain ⟨hp, rfl⟩ := rx_n q.1
    exact AF.ireturn dL_opening_5 rfl ⟨by rw [hp]; rfl, q.2⟩
theorem hx_height_0 : HX mL_height 2 "java/lang/IndexOutOfBoundsException" [] (0, 5, 6, 29) := ⟨⟨[], rfl⟩, fun z hz => absurd hz List.not_mem_nil, by decide +kernel, by decide, "java/lang/IndexOutOfBoundsException", tb 597 (by decide +kernel), tb 538 (by decide +kernel)⟩
set_option maxRecDepth 100000 in
set_option maxHeartbeats 1000000 in
theorem L_height_ok {B : Nat} (hC : CX G F c bv X) (x : Int32) (hI : SQ X.sg B) : AC G mL_height 12 1 6 [.ref c, .int x] F (XQ G c bv X (.inl (some (.int (rn [-7700] (if hasB X.sg.J.length x = true then 0 else 1) (nI (hgt X.sg.cap (dem X.sg.J) (jo X.sg.J (cl x)))))))) F) := by
  have hpr : (if hasB X.sg.J.length x = true then 0 else 1) ≤ 1 := by split <;> omega
  have hK := X8_height_ok hC hI x
  obtain ⟨hn, hf, ⟨c0, -⟩, -⟩ := hC
  refine AC.ofH [some (.ref c), some (.int x), none] rfl (by decide) (Nat.le_of_ble_eq_true rfl) rfl ?_
  refine AF.aload_n dL_height_0 rfl ?_
  refine AF.iload_n dL_height_1 rfl ?_
  refine AF.callVH (bc := 0) (bs := 0) (mc' := 1) (ms' := 6) dL_height_2 kv_L_41 hK c0 rfl rfl rfl (Nat.le_of_ble_eq_true rfl) (by decide) (fun E F' q => ?_) (fun v F' q => ?_)
  · obtain ⟨e1, e2⟩ := rx_x q.1
    rcases (by omega : (if hasB X.sg.J.length x = true then 0 else 1) = 1) with hp
    · rw [hp] at e2
      subst e2
      refine ⟨_, _, hx_height_0, fun q9 => ?_⟩
      refine AF.astore_n dL_height_6 (by decide) ?_
      refine AF.sipush (-7700) dL_height_7 (by decide) ?_
      exact AF.ireturn dL_height_10 rfl ⟨by rw [hp]; rfl, q.2⟩
  · obtain ⟨hp, rfl⟩ := rx_n q.1
    exact AF.ireturn dL_height_5 rfl ⟨by rw [hp]; rfl, q.2⟩
theorem hx_landing_0 : HX mL_landing 2 "java/lang/IndexOutOfBoundsException" [] (0, 5, 6, 29) := ⟨⟨[], rfl⟩, fun z hz => absurd hz List.not_mem_nil, by decide +kernel, by decide, "java/lang/IndexOutOfBoundsException", tb 597 (by decide +kernel), tb 538 (by decide +kernel)⟩
set_option maxRecDepth 100000 in
set_option maxHeartbeats 1000000 in
theorem L_landing_ok {B : Nat} (hC : CX G F c bv X) (x : Int32) (hI : SQ X.sg B) : AC G mL_landing 12 1 6 [.ref c, .int x] F (XQ G c bv X (.inl (some (.int (rn [-7700] (if hasB X.sg.J.length x = true then 0 else 1) (lan X.sg.J X.sg.cap X.sg.w (dem X.sg.J) (cl x)))))) F) := by
  have hpr : (if hasB X.sg.J.length x = true then 0 else 1) ≤ 1 := by split <;> omega
  have hK := X8_landing_ok hC hI x
  obtain ⟨hn, hf, ⟨c0, -⟩, -⟩ := hC
  refine AC.ofH [some (.ref c), some (.int x), none] rfl (by decide) (Nat.le_of_ble_eq_true rfl) rfl ?_
  refine AF.aload_n dL_landing_0 rfl ?_
  refine AF.iload_n dL_landing_1 rfl ?_
  refine AF.callVH (bc := 0) (bs := 0) (mc' := 1) (ms' := 6) dL_landing_2 kv_L_44 hK c0 rfl rfl rfl (Nat.le_of_ble_eq_true rfl) (by decide) (fun E F' q => ?_) (fun v F' q => ?_)
  · obtain ⟨e1, e2⟩ := rx_x q.1
    rcases (by omega : (if hasB X.sg.J.length x = true then 0 else 1) = 1) with hp
    · rw [hp] at e2
      subst e2
      refine ⟨_, _, hx_landing_0, fun q9 => ?_⟩
      refine AF.astore_n dL_landing_6 (by decide) ?_
      refine AF.sipush (-7700) dL_landing_7 (by decide) ?_
      exact AF.ireturn dL_landing_10 rfl ⟨by rw [hp]; rfl, q.2⟩
  · obtain ⟨hp, rfl⟩ := rx_n q.1
    exact AF.ireturn dL_landing_5 rfl ⟨by rw [hp]; rfl, q.2⟩
theorem hx_isWild_0 : HX mL_isWild 2 "java/lang/IndexOutOfBoundsException" [] (0, 13, 14, 29) := ⟨⟨[], rfl⟩, fun z hz => absurd hz List.not_mem_nil, by decide +kernel, by decide, "java/lang/IndexOutOfBoundsException", tb 597 (by decide +kernel), tb 538 (by decide +kernel)⟩
set_option maxRecDepth 100000 in
set_option maxHeartbeats 1000000 in
theorem L_isWild_ok {B : Nat} (hC : CX G F c bv X) (x : Int32) (hI : SQ X.sg B) : AC G mL_isWild 12 1 6 [.ref c, .int x] F (XQ G c bv X (.inl (some (.int (rn [-7700] (if hasB X.sg.J.length x = true then 0 else 1) (bI (wld X.sg.J X.sg.cap X.sg.w (cl x))))))) F) := by
  have hpr : (if hasB X.sg.J.length x = true then 0 else 1) ≤ 1 := by split <;> omega
  have hK := X8_isWild_ok hC hI x
  obtain ⟨hn, hf, ⟨c0, -⟩, -⟩ := hC
  refine AC.ofH [some (.ref c), some (.int x), none] rfl (by decide) (Nat.le_of_ble_eq_true rfl) rfl ?_
  refine AF.aload_n dL_isWild_0 rfl ?_
  refine AF.iload_n dL_isWild_1 rfl ?_
  refine AF.callVH (bc := 0) (bs := 0) (mc' := 1) (ms' := 6) dL_isWild_2 kv_L_47 hK c0 rfl rfl rfl (Nat.le_of_ble_eq_true rfl) (by decide) (fun E F' q => ?_) (fun v F' q => ?_)
  · obtain ⟨e1, e2⟩ := rx_x q.1
    rcases (by omega : (if hasB X.sg.J.length x = true then 0 else 1) = 1) with hp
    · rw [hp] at e2
      subst e2
      refine ⟨_, _, hx_isWild_0, fun q9 => ?_⟩
      refine AF.astore_n dL_isWild_14 (by decide) ?_
      refine AF.sipush (-7700) dL_isWild_15 (by decide) ?_
      exact AF.ireturn dL_isWild_18 rfl ⟨by rw [hp]; rfl, q.2⟩
  · obtain ⟨hp, rfl⟩ := rx_n q.1
    refine AF.if_eq 12 dL_isWild_5 (by decide) (fun c1 => ?_) (fun c1 => ?_)
    · refine AF.iconst (0) dL_isWild_12 (by decide) ?_
      exact AF.ireturn dL_isWild_13 rfl ⟨by rw [hp]; exact congrArg (fun z => (Sum.inl (some (Value.int z)) : AR)) (bI_e0 c1), q.2⟩
    · refine AF.iconst (1) dL_isWild_8 (by decide) ?_
      refine AF.goto 13 dL_isWild_9 (by decide) ?_
      exact AF.ireturn dL_isWild_13 rfl ⟨by rw [hp]; exact congrArg (fun z => (Sum.inl (some (Value.int z)) : AR)) (bI_e1 c1), q.2⟩
theorem hx_highestJet_0 : HX mL_highestJet 1 "java/util/NoSuchElementException" [] (0, 4, 5, 55) := ⟨⟨[], rfl⟩, fun z hz => absurd hz List.not_mem_nil, by decide +kernel, by decide, "java/util/NoSuchElementException", tb 467 (by decide +kernel), tb 475 (by decide +kernel)⟩
set_option maxRecDepth 100000 in
set_option maxHeartbeats 1000000 in
theorem L_highestJet_ok {B : Nat} (hC : CX G F c bv X) (hI : SQ X.sg B) : AC G mL_highestJet 12 1 6 [.ref c] F (XQ G c bv X (.inl (some (.int (rn [-7500] (if X.sg.J.length = 0 then 1 else 0) (nI (hghst X.sg.J X.sg.cap)))))) F) := by
  have hpr : (if X.sg.J.length = 0 then 1 else 0) ≤ 1 := by split <;> omega
  have hK := X8_highestJet_ok hC hI
  obtain ⟨hn, hf, ⟨c0, -⟩, -⟩ := hC
  refine AC.ofH [some (.ref c), none] rfl (by decide) (Nat.le_of_ble_eq_true rfl) rfl ?_
  refine AF.aload_n dL_highestJet_0 rfl ?_
  refine AF.callVH (bc := 0) (bs := 0) (mc' := 1) (ms' := 6) dL_highestJet_1 kv_L_51 hK c0 rfl rfl rfl (Nat.le_of_ble_eq_true rfl) (by decide) (fun E F' q => ?_) (fun v F' q => ?_)
  · obtain ⟨e1, e2⟩ := rx_x q.1
    rcases (by omega : (if X.sg.J.length = 0 then 1 else 0) = 1) with hp
    · rw [hp] at e2
      subst e2
      refine ⟨_, _, hx_highestJet_0, fun q9 => ?_⟩
      refine AF.astore_n dL_highestJet_5 (by decide) ?_
      refine AF.sipush (-7500) dL_highestJet_6 (by decide) ?_
      exact AF.ireturn dL_highestJet_9 rfl ⟨by rw [hp]; rfl, q.2⟩
  · obtain ⟨hp, rfl⟩ := rx_n q.1
    exact AF.ireturn dL_highestJet_4 rfl ⟨by rw [hp]; rfl, q.2⟩
theorem hx_jetByPosition_0 : HX mL_jetByPosition 2 "java/util/NoSuchElementException" [] (0, 5, 6, 55) := ⟨⟨[], rfl⟩, fun z hz => absurd hz List.not_mem_nil, by decide +kernel, by decide, "java/util/NoSuchElementException", tb 467 (by decide +kernel), tb 475 (by decide +kernel)⟩
set_option maxRecDepth 100000 in
set_option maxHeartbeats 1000000 in
theorem L_jetByPosition_ok {B : Nat} (hC : CX G F c bv X) (x : Int32) (hI : SQ X.sg B) : AC G mL_jetByPosition 12 1 6 [.ref c, .int x] F (XQ G c bv X (.inl (some (.int (rn [-7500] (if (fnd (fun j => decide (nI (rnk X.sg.J j) = x)) X.sg.J.length).isSome = true then 0 else 1) (nI ((fnd (fun j => decide (nI (rnk X.sg.J j) = x)) X.sg.J.length).getD 0)))))) F) := by
  have hpr : (if (fnd (fun j => decide (nI (rnk X.sg.J j) = x)) X.sg.J.length).isSome = true then 0 else 1) ≤ 1 := by split <;> omega
  have hK := X8_jetByPosition_ok hC hI x
  obtain ⟨hn, hf, ⟨c0, -⟩, -⟩ := hC
  refine AC.ofH [some (.ref c), some (.int x), none] rfl (by decide) (Nat.le_of_ble_eq_true rfl) rfl ?_
  refine AF.aload_n dL_jetByPosition_0 rfl ?_
  refine AF.iload_n dL_jetByPosition_1 rfl ?_
  refine AF.callVH (bc := 0) (bs := 0) (mc' := 1) (ms' := 6) dL_jetByPosition_2 kv_L_57 hK c0 rfl rfl rfl (Nat.le_of_ble_eq_true rfl) (by decide) (fun E F' q => ?_) (fun v F' q => ?_)
  · obtain ⟨e1, e2⟩ := rx_x q.1
    rcases (by omega : (if (fnd (fun j => decide (nI (rnk X.sg.J j) = x)) X.sg.J.length).isSome = true then 0 else 1) = 1) with hp
    · rw [hp] at e2
      subst e2
      refine ⟨_, _, hx_jetByPosition_0, fun q9 => ?_⟩
      refine AF.astore_n dL_jetByPosition_6 (by decide) ?_
      refine AF.sipush (-7500) dL_jetByPosition_7 (by decide) ?_
      exact AF.ireturn dL_jetByPosition_10 rfl ⟨by rw [hp]; rfl, q.2⟩
  · obtain ⟨hp, rfl⟩ := rx_n q.1
    exact AF.ireturn dL_jetByPosition_5 rfl ⟨by rw [hp]; rfl, q.2⟩
theorem hx_nearestLanding_0 : HX mL_nearestLanding 2 "java/util/NoSuchElementException" [] (0, 5, 6, 55) := ⟨⟨[], rfl⟩, fun z hz => absurd hz List.not_mem_nil, by decide +kernel, by decide, "java/util/NoSuchElementException", tb 467 (by decide +kernel), tb 475 (by decide +kernel)⟩
set_option maxRecDepth 100000 in
set_option maxHeartbeats 1000000 in
theorem L_nearestLanding_ok {B : Nat} (hC : CX G F c bv X) (x : Int32) (hI : SQ X.sg B) : AC G mL_nearestLanding 12 1 6 [.ref c, .int x] F (XQ G c bv X (.inl (some (.int (rn [-7500] (if X.sg.J.length = 0 then 1 else 0) (nI (nrst X.sg.J X.sg.cap X.sg.w x)))))) F) := by
  have hpr : (if X.sg.J.length = 0 then 1 else 0) ≤ 1 := by split <;> omega
  have hK := X8_nearestLanding_ok hC hI x
  obtain ⟨hn, hf, ⟨c0, -⟩, -⟩ := hC
  refine AC.ofH [some (.ref c), some (.int x), none] rfl (by decide) (Nat.le_of_ble_eq_true rfl) rfl ?_
  refine AF.aload_n dL_nearestLanding_0 rfl ?_
  refine AF.iload_n dL_nearestLanding_1 rfl ?_
  refine AF.callVH (bc := 0) (bs := 0) (mc' := 1) (ms' := 6) dL_nearestLanding_2 kv_L_60 hK c0 rfl rfl rfl (Nat.le_of_ble_eq_true rfl) (by decide) (fun E F' q => ?_) (fun v F' q => ?_)
  · obtain ⟨e1, e2⟩ := rx_x q.1
    rcases (by omega : (if X.sg.J.length = 0 then 1 else 0) = 1) with hp
    · rw [hp] at e2
      subst e2
      refine ⟨_, _, hx_nearestLanding_0, fun q9 => ?_⟩
      refine AF.astore_n dL_nearestLanding_6 (by decide) ?_
      refine AF.sipush (-7500) dL_nearestLanding_7 (by decide) ?_
      exact AF.ireturn dL_nearestLanding_10 rfl ⟨by rw [hp]; rfl, q.2⟩
  · obtain ⟨hp, rfl⟩ := rx_n q.1
    exact AF.ireturn dL_nearestLanding_5 rfl ⟨by rw [hp]; rfl, q.2⟩
theorem hx_setCapacity_0 : HX mL_setCapacity 2 "java/lang/IllegalArgumentException" [] (0, 5, 6, 20) := ⟨⟨[], rfl⟩, fun z hz => absurd hz List.not_mem_nil, by decide +kernel, by decide, "java/lang/IllegalArgumentException", tb 336 (by decide +kernel), tb 346 (by decide +kernel)⟩
set_option maxRecDepth 100000 in
set_option maxHeartbeats 1000000 in
theorem L_setCapacity_ok {B : Nat} (hC : CX G F c bv X) (x : Int32) (ha : gN G ≤ c) (hI : SQ X.sg B) : AC G mL_setCapacity 12 1 6 [.ref c, .int x] F (XQ G c bv (chX X (aCap X.sg x) (pCap x / 2)) (.inl (some (.int (rn [-7800] (pCap x / 2) (nI X.sg.cap))))) F) := by
  have hpr : (pCap x / 2) ≤ 1 := by have := pCap_v (x := x); omega
  have hK := X8_setCapacity_ok hC ha hI x
  obtain ⟨hn, hf, ⟨c0, -⟩, -⟩ := hC
  refine AC.ofH [some (.ref c), some (.int x), none] rfl (by decide) (Nat.le_of_ble_eq_true rfl) rfl ?_
  refine AF.aload_n dL_setCapacity_0 rfl ?_
  refine AF.iload_n dL_setCapacity_1 rfl ?_
  refine AF.callVH (bc := 0) (bs := 0) (mc' := 1) (ms' := 6) dL_setCapacity_2 kv_L_63 hK c0 rfl rfl rfl (Nat.le_of_ble_eq_true rfl) (by decide) (fun E F' q => ?_) (fun v F' q => ?_)
  · obtain ⟨e1, e2⟩ := rx_x q.1
    rcases (by omega : (pCap x / 2) = 1) with hp
    · rw [hp] at e2
      subst e2
      refine ⟨_, _, hx_setCapacity_0, fun q9 => ?_⟩
      refine AF.astore_n dL_setCapacity_6 (by decide) ?_
      refine AF.sipush (-7800) dL_setCapacity_7 (by decide) ?_
      exact AF.ireturn dL_setCapacity_10 rfl ⟨by rw [hp]; rfl, q.2⟩
  · obtain ⟨hp, rfl⟩ := rx_n q.1
    exact AF.ireturn dL_setCapacity_5 rfl ⟨by rw [hp]; rfl, q.2⟩
theorem hx_setWind_0 : HX mL_setWind 2 "java/lang/IllegalArgumentException" [] (0, 5, 6, 20) := ⟨⟨[], rfl⟩, fun z hz => absurd hz List.not_mem_nil, by decide +kernel, by decide, "java/lang/IllegalArgumentException", tb 336 (by decide +kernel), tb 346 (by decide +kernel)⟩
set_option maxRecDepth 100000 in
set_option maxHeartbeats 1000000 in
theorem L_setWind_ok {B : Nat} (hC : CX G F c bv X) (x : Int32) (ha : gN G ≤ c) (hI : SQ X.sg B) : AC G mL_setWind 12 1 6 [.ref c, .int x] F (XQ G c bv (chX X (aWnd X.sg x) (pWnd x / 2)) (.inl (some (.int (rn [-7800] (pWnd x / 2) (X.sg.w))))) F) := by
  have hpr : (pWnd x / 2) ≤ 1 := by have := pWnd_v (x := x); omega
  have hK := X8_setWind_ok hC ha hI x
  obtain ⟨hn, hf, ⟨c0, -⟩, -⟩ := hC
  refine AC.ofH [some (.ref c), some (.int x), none] rfl (by decide) (Nat.le_of_ble_eq_true rfl) rfl ?_
  refine AF.aload_n dL_setWind_0 rfl ?_
  refine AF.iload_n dL_setWind_1 rfl ?_
  refine AF.callVH (bc := 0) (bs := 0) (mc' := 1) (ms' := 6) dL_setWind_2 kv_L_66 hK c0 rfl rfl rfl (Nat.le_of_ble_eq_true rfl) (by decide) (fun E F' q => ?_) (fun v F' q => ?_)
  · obtain ⟨e1, e2⟩ := rx_x q.1
    rcases (by omega : (pWnd x / 2) = 1) with hp
    · rw [hp] at e2
      subst e2
      refine ⟨_, _, hx_setWind_0, fun q9 => ?_⟩
      refine AF.astore_n dL_setWind_6 (by decide) ?_
      refine AF.sipush (-7800) dL_setWind_7 (by decide) ?_
      exact AF.ireturn dL_setWind_10 rfl ⟨by rw [hp]; rfl, q.2⟩
  · obtain ⟨hp, rfl⟩ := rx_n q.1
    exact AF.ireturn dL_setWind_5 rfl ⟨by rw [hp]; rfl, q.2⟩
theorem hx_addFigure_0 : HX mL_addFigure 1 "java/lang/IllegalStateException" [] (0, 4, 5, 24) := ⟨⟨[], rfl⟩, fun z hz => absurd hz List.not_mem_nil, by decide +kernel, by decide, "java/lang/IllegalStateException", tb 504 (by decide +kernel), tb 571 (by decide +kernel)⟩
set_option maxRecDepth 100000 in
set_option maxHeartbeats 1000000 in
theorem L_addFigure_ok {B : Nat} (hC : CX G F c bv X) (ha : gN G ≤ c) (hI : SQ X.sg B) : AC G mL_addFigure 12 1 6 [.ref c] F (XQ G c bv (chX X (aFig X.sg) (if X.sg.Fg.length < 5 then 0 else 1)) (.inl (some (.int (rn [-7900] (if X.sg.Fg.length < 5 then 0 else 1) (nI X.sg.Fg.length))))) F) := by
  have hpr : (if X.sg.Fg.length < 5 then 0 else 1) ≤ 1 := by split <;> omega
  have hK := X8_addFigure_ok hC ha hI
  obtain ⟨hn, hf, ⟨c0, -⟩, -⟩ := hC
  refine AC.ofH [some (.ref c), none] rfl (by decide) (Nat.le_of_ble_eq_true rfl) rfl ?_
  refine AF.aload_n dL_addFigure_0 rfl ?_
  refine AF.callVH (bc := 0) (bs := 0) (mc' := 1) (ms' := 6) dL_addFigure_1 kv_L_69 hK c0 rfl rfl rfl (Nat.le_of_ble_eq_true rfl) (by decide) (fun E F' q => ?_) (fun v F' q => ?_)
  · obtain ⟨e1, e2⟩ := rx_x q.1
    rcases (by omega : (if X.sg.Fg.length < 5 then 0 else 1) = 1) with hp
    · rw [hp] at e2
      subst e2
      refine ⟨_, _, hx_addFigure_0, fun q9 => ?_⟩
      refine AF.astore_n dL_addFigure_5 (by decide) ?_
      refine AF.sipush (-7900) dL_addFigure_6 (by decide) ?_
      exact AF.ireturn dL_addFigure_9 rfl ⟨by rw [hp]; rfl, q.2⟩
  · obtain ⟨hp, rfl⟩ := rx_n q.1
    exact AF.ireturn dL_addFigure_4 rfl ⟨by rw [hp]; rfl, q.2⟩
theorem hx_removeFigure_0 : HX mL_removeFigure 2 "java/lang/IndexOutOfBoundsException" [] (0, 5, 6, 29) := ⟨⟨[(0, 5, 11, 24)], rfl⟩, fun z hz => absurd hz List.not_mem_nil, by decide +kernel, by decide, "java/lang/IndexOutOfBoundsException", tb 597 (by decide +kernel), tb 538 (by decide +kernel)⟩
theorem hx_removeFigure_1 : HX mL_removeFigure 2 "java/lang/IllegalStateException" [(0, 5, 6, 29)] (0, 5, 11, 24) := ⟨⟨[], rfl⟩, (fun z hz => by
    rcases (by simpa using hz : z = (0, 5, 6, 29)) with rfl
    · exact ⟨by decide, "java/lang/IndexOutOfBoundsException", tb 597 (by decide +kernel), by decide +kernel⟩), by decide +kernel, by decide, "java/lang/IllegalStateException", tb 504 (by decide +kernel), tb 571 (by decide +kernel)⟩
set_option maxRecDepth 100000 in
set_option maxHeartbeats 1000000 in
theorem L_removeFigure_ok {B : Nat} (hC : CX G F c bv X) (x : Int32) (ha : gN G ≤ c) (hI : SQ X.sg B) : AC G mL_removeFigure 12 1 6 [.ref c, .int x] F (XQ G c bv (chX X (aRmF X.sg x) (if pDrF X.sg x = 4 then 2 else pDrF X.sg x)) (.inl (some (.int (rn [-7700, -7900] (if pDrF X.sg x = 4 then 2 else pDrF X.sg x) (nI (fg X.sg.Fg (cl x)).length))))) F) := by
  have hpr : (if pDrF X.sg x = 4 then 2 else pDrF X.sg x) ≤ 2 := by have := pDrF_v (σ := X.sg) (x := x); split <;> omega
  have hK := X8_removeFigure_ok hC ha hI x
  obtain ⟨hn, hf, ⟨c0, -⟩, -⟩ := hC
  refine AC.ofH [some (.ref c), some (.int x), none] rfl (by decide) (Nat.le_of_ble_eq_true rfl) rfl ?_
  refine AF.aload_n dL_removeFigure_0 rfl ?_
  refine AF.iload_n dL_removeFigure_1 rfl ?_
  refine AF.callVH (bc := 0) (bs := 0) (mc' := 1) (ms' := 6) dL_removeFigure_2 kv_L_72 hK c0 rfl rfl rfl (Nat.le_of_ble_eq_true rfl) (by decide) (fun E F' q => ?_) (fun v F' q => ?_)
  · obtain ⟨e1, e2⟩ := rx_x q.1
    rcases (by omega : (if pDrF X.sg x = 4 then 2 else pDrF X.sg x) = 1 ∨ (if pDrF X.sg x = 4 then 2 else pDrF X.sg x) = 2) with hp | hp
    · rw [hp] at e2
      subst e2
      refine ⟨_, _, hx_removeFigure_0, fun q9 => ?_⟩
      refine AF.astore_n dL_removeFigure_6 (by decide) ?_
      refine AF.sipush (-7700) dL_removeFigure_7 (by decide) ?_
      exact AF.ireturn dL_removeFigure_10 rfl ⟨by rw [hp]; rfl, q.2⟩
    · rw [hp] at e2
      subst e2
      refine ⟨_, _, hx_removeFigure_1, fun q9 => ?_⟩
      refine AF.astore_n dL_removeFigure_11 (by decide) ?_
      refine AF.sipush (-7900) dL_removeFigure_12 (by decide) ?_
      exact AF.ireturn dL_removeFigure_15 rfl ⟨by rw [hp]; rfl, q.2⟩
  · obtain ⟨hp, rfl⟩ := rx_n q.1
    exact AF.ireturn dL_removeFigure_5 rfl ⟨by rw [hp]; rfl, q.2⟩
theorem hx_addStep_0 : HX mL_addStep 6 "java/lang/IndexOutOfBoundsException" [] (0, 9, 10, 29) := ⟨⟨[(0, 9, 16, 20), (0, 9, 22, 24)], rfl⟩, fun z hz => absurd hz List.not_mem_nil, by decide +kernel, by decide, "java/lang/IndexOutOfBoundsException", tb 597 (by decide +kernel), tb 538 (by decide +kernel)⟩
theorem hx_addStep_1 : HX mL_addStep 6 "java/lang/IllegalArgumentException" [(0, 9, 10, 29)] (0, 9, 16, 20) := ⟨⟨[(0, 9, 22, 24)], rfl⟩, (fun z hz => by
    rcases (by simpa using hz : z = (0, 9, 10, 29)) with rfl
    · exact ⟨by decide, "java/lang/IndexOutOfBoundsException", tb 597 (by decide +kernel), by decide +kernel⟩), by decide +kernel, by decide, "java/lang/IllegalArgumentException", tb 336 (by decide +kernel), tb 346 (by decide +kernel)⟩
theorem hx_addStep_2 : HX mL_addStep 6 "java/lang/IllegalStateException" [(0, 9, 10, 29), (0, 9, 16, 20)] (0, 9, 22, 24) := ⟨⟨[], rfl⟩, (fun z hz => by
    rcases (by simpa using hz : z = (0, 9, 10, 29) ∨ z = (0, 9, 16, 20)) with rfl | rfl
    · exact ⟨by decide, "java/lang/IndexOutOfBoundsException", tb 597 (by decide +kernel), by decide +kernel⟩
    · exact ⟨by decide, "java/lang/IllegalArgumentException", tb 336 (by decide +kernel), by decide +kernel⟩), by decide +kernel, by decide, "java/lang/IllegalStateException", tb 504 (by decide +kernel), tb 571 (by decide +kernel)⟩
set_option maxRecDepth 100000 in
set_option maxHeartbeats 1000000 in
theorem L_addStep_ok {B : Nat} (hC : CX G F c bv X) (x y z u : Int32) (ha : gN G ≤ c) (hI : SQ X.sg B) : AC G mL_addStep 12 1 6 [.ref c, .int x, .int y, .int z, .int u] F (XQ G c bv (chX X (aStp X.sg x y z u) (if pStp X.sg x y z u = 4 then 3 else pStp X.sg x y z u)) (.inl (some (.int (rn [-7700, -7800, -7900] (if pStp X.sg x y z u = 4 then 3 else pStp X.sg x y z u) (nI ((fg X.sg.Fg (cl x)).length + 1)))))) F) := by
  have hpr : (if pStp X.sg x y z u = 4 then 3 else pStp X.sg x y z u) ≤ 3 := by have := pStp_v (σ := X.sg) (x := x) (y := y) (z := z) (u := u); split <;> omega
  have hK := X8_addStep_ok hC ha hI x y z u
  obtain ⟨hn, hf, ⟨c0, -⟩, -⟩ := hC
  refine AC.ofH [some (.ref c), some (.int x), some (.int y), some (.int z), some (.int u), none] rfl (by decide) (Nat.le_of_ble_eq_true rfl) rfl ?_
  refine AF.aload_n dL_addStep_0 rfl ?_
  refine AF.iload_n dL_addStep_1 rfl ?_
  refine AF.iload_n dL_addStep_2 rfl ?_
  refine AF.iload_n dL_addStep_3 rfl ?_
  refine AF.iload dL_addStep_4 rfl ?_
  refine AF.callVH (bc := 0) (bs := 0) (mc' := 1) (ms' := 6) dL_addStep_6 kv_L_75 hK c0 rfl rfl rfl (Nat.le_of_ble_eq_true rfl) (by decide) (fun E F' q => ?_) (fun v F' q => ?_)
  · obtain ⟨e1, e2⟩ := rx_x q.1
    rcases (by omega : (if pStp X.sg x y z u = 4 then 3 else pStp X.sg x y z u) = 1 ∨ (if pStp X.sg x y z u = 4 then 3 else pStp X.sg x y z u) = 2 ∨ (if pStp X.sg x y z u = 4 then 3 else pStp X.sg x y z u) = 3) with hp | hp | hp
    · rw [hp] at e2
      subst e2
      refine ⟨_, _, hx_addStep_0, fun q9 => ?_⟩
      refine AF.astore dL_addStep_10 (by decide) ?_
      refine AF.sipush (-7700) dL_addStep_12 (by decide) ?_
      exact AF.ireturn dL_addStep_15 rfl ⟨by rw [hp]; rfl, q.2⟩
    · rw [hp] at e2
      subst e2
      refine ⟨_, _, hx_addStep_1, fun q9 => ?_⟩
      refine AF.astore dL_addStep_16 (by decide) ?_
      refine AF.sipush (-7800) dL_addStep_18 (by decide) ?_
      exact AF.ireturn dL_addStep_21 rfl ⟨by rw [hp]; rfl, q.2⟩
    · rw [hp] at e2
      subst e2
      refine ⟨_, _, hx_addStep_2, fun q9 => ?_⟩
      refine AF.astore dL_addStep_22 (by decide) ?_
      refine AF.sipush (-7900) dL_addStep_24 (by decide) ?_
      exact AF.ireturn dL_addStep_27 rfl ⟨by rw [hp]; rfl, q.2⟩
  · obtain ⟨hp, rfl⟩ := rx_n q.1
    exact AF.ireturn dL_addStep_9 rfl ⟨by rw [hp]; rfl, q.2⟩
theorem hx_removeStep_0 : HX mL_removeStep 3 "java/lang/IndexOutOfBoundsException" [] (0, 6, 7, 29) := ⟨⟨[], rfl⟩, fun z hz => absurd hz List.not_mem_nil, by decide +kernel, by decide, "java/lang/IndexOutOfBoundsException", tb 597 (by decide +kernel), tb 538 (by decide +kernel)⟩
set_option maxRecDepth 100000 in
set_option maxHeartbeats 1000000 in
theorem L_removeStep_ok {B : Nat} (hC : CX G F c bv X) (x y : Int32) (ha : gN G ≤ c) (hI : SQ X.sg B) : AC G mL_removeStep 12 1 6 [.ref c, .int x, .int y] F (XQ G c bv (chX X (aRmS X.sg x y) (if hsB X.sg.Fg x y = true then 0 else 1)) (.inl (some (.int (rn [-7700] (if hsB X.sg.Fg x y = true then 0 else 1) (nI ((fg X.sg.Fg (cl x)).length - 1)))))) F) := by
  have hpr : (if hsB X.sg.Fg x y = true then 0 else 1) ≤ 1 := by split <;> omega
  have hK := X8_removeStep_ok hC ha hI x y
  obtain ⟨hn, hf, ⟨c0, -⟩, -⟩ := hC
  refine AC.ofH [some (.ref c), some (.int x), some (.int y), none] rfl (by decide) (Nat.le_of_ble_eq_true rfl) rfl ?_
  refine AF.aload_n dL_removeStep_0 rfl ?_
  refine AF.iload_n dL_removeStep_1 rfl ?_
  refine AF.iload_n dL_removeStep_2 rfl ?_
  refine AF.callVH (bc := 0) (bs := 0) (mc' := 1) (ms' := 6) dL_removeStep_3 kv_L_79 hK c0 rfl rfl rfl (Nat.le_of_ble_eq_true rfl) (by decide) (fun E F' q => ?_) (fun v F' q => ?_)
  · obtain ⟨e1, e2⟩ := rx_x q.1
    rcases (by omega : (if hsB X.sg.Fg x y = true then 0 else 1) = 1) with hp
    · rw [hp] at e2
      subst e2
      refine ⟨_, _, hx_removeStep_0, fun q9 => ?_⟩
      refine AF.astore_n dL_removeStep_7 (by decide) ?_
      refine AF.sipush (-7700) dL_removeStep_8 (by decide) ?_
      exact AF.ireturn dL_removeStep_11 rfl ⟨by rw [hp]; rfl, q.2⟩
  · obtain ⟨hp, rfl⟩ := rx_n q.1
    exact AF.ireturn dL_removeStep_6 rfl ⟨by rw [hp]; rfl, q.2⟩
theorem hx_stepCount_0 : HX mL_stepCount 2 "java/lang/IndexOutOfBoundsException" [] (0, 5, 6, 29) := ⟨⟨[], rfl⟩, fun z hz => absurd hz List.not_mem_nil, by decide +kernel, by decide, "java/lang/IndexOutOfBoundsException", tb 597 (by decide +kernel), tb 538 (by decide +kernel)⟩
set_option maxRecDepth 100000 in
set_option maxHeartbeats 1000000 in
theorem L_stepCount_ok (hC : CX G F c bv X) (x : Int32) : AC G mL_stepCount 12 1 6 [.ref c, .int x] F (XQ G c bv X (.inl (some (.int (rn [-7700] (if hasB X.sg.Fg.length x = true then 0 else 1) (nI (fg X.sg.Fg (cl x)).length))))) F) := by
  have hpr : (if hasB X.sg.Fg.length x = true then 0 else 1) ≤ 1 := by split <;> omega
  have hK := X8_stepCount_ok hC x
  obtain ⟨hn, hf, ⟨c0, -⟩, -⟩ := hC
  refine AC.ofH [some (.ref c), some (.int x), none] rfl (by decide) (Nat.le_of_ble_eq_true rfl) rfl ?_
  refine AF.aload_n dL_stepCount_0 rfl ?_
  refine AF.iload_n dL_stepCount_1 rfl ?_
  refine AF.callVH (bc := 0) (bs := 0) (mc' := 1) (ms' := 6) dL_stepCount_2 kv_L_82 hK c0 rfl rfl rfl (Nat.le_of_ble_eq_true rfl) (by decide) (fun E F' q => ?_) (fun v F' q => ?_)
  · obtain ⟨e1, e2⟩ := rx_x q.1
    rcases (by omega : (if hasB X.sg.Fg.length x = true then 0 else 1) = 1) with hp
    · rw [hp] at e2
      subst e2
      refine ⟨_, _, hx_stepCount_0, fun q9 => ?_⟩
      refine AF.astore_n dL_stepCount_6 (by decide) ?_
      refine AF.sipush (-7700) dL_stepCount_7 (by decide) ?_
      exact AF.ireturn dL_stepCount_10 rfl ⟨by rw [hp]; rfl, q.2⟩
  · obtain ⟨hp, rfl⟩ := rx_n q.1
    exact AF.ireturn dL_stepCount_5 rfl ⟨by rw [hp]; rfl, q.2⟩
theorem hx_stepDelay_0 : HX mL_stepDelay 3 "java/lang/IndexOutOfBoundsException" [] (0, 6, 7, 29) := ⟨⟨[], rfl⟩, fun z hz => absurd hz List.not_mem_nil, by decide +kernel, by decide, "java/lang/IndexOutOfBoundsException", tb 597 (by decide +kernel), tb 538 (by decide +kernel)⟩
set_option maxRecDepth 100000 in
set_option maxHeartbeats 1000000 in
theorem L_stepDelay_ok (hC : CX G F c bv X) (x y : Int32) : AC G mL_stepDelay 12 1 6 [.ref c, .int x, .int y] F (XQ G c bv X (.inl (some (.int (rn [-7700] (if hsB X.sg.Fg x y = true then 0 else 1) (nI (g3 (fg X.sg.Fg (cl x)) (cl y)).1))))) F) := by
  have hpr : (if hsB X.sg.Fg x y = true then 0 else 1) ≤ 1 := by split <;> omega
  have hK := X8_stepDelay_ok hC x y
  obtain ⟨hn, hf, ⟨c0, -⟩, -⟩ := hC
  refine AC.ofH [some (.ref c), some (.int x), some (.int y), none] rfl (by decide) (Nat.le_of_ble_eq_true rfl) rfl ?_
  refine AF.aload_n dL_stepDelay_0 rfl ?_
  refine AF.iload_n dL_stepDelay_1 rfl ?_
  refine AF.iload_n dL_stepDelay_2 rfl ?_
  refine AF.callVH (bc := 0) (bs := 0) (mc' := 1) (ms' := 6) dL_stepDelay_3 kv_L_85 hK c0 rfl rfl rfl (Nat.le_of_ble_eq_true rfl) (by decide) (fun E F' q => ?_) (fun v F' q => ?_)
  · obtain ⟨e1, e2⟩ := rx_x q.1
    rcases (by omega : (if hsB X.sg.Fg x y = true then 0 else 1) = 1) with hp
    · rw [hp] at e2
      subst e2
      refine ⟨_, _, hx_stepDelay_0, fun q9 => ?_⟩
      refine AF.astore_n dL_stepDelay_7 (by decide) ?_
      refine AF.sipush (-7700) dL_stepDelay_8 (by decide) ?_
      exact AF.ireturn dL_stepDelay_11 rfl ⟨by rw [hp]; rfl, q.2⟩
  · obtain ⟨hp, rfl⟩ := rx_n q.1
    exact AF.ireturn dL_stepDelay_6 rfl ⟨by rw [hp]; rfl, q.2⟩
theorem hx_stepJet_0 : HX mL_stepJet 3 "java/lang/IndexOutOfBoundsException" [] (0, 6, 7, 29) := ⟨⟨[], rfl⟩, fun z hz => absurd hz List.not_mem_nil, by decide +kernel, by decide, "java/lang/IndexOutOfBoundsException", tb 597 (by decide +kernel), tb 538 (by decide +kernel)⟩
set_option maxRecDepth 100000 in
set_option maxHeartbeats 1000000 in
theorem L_stepJet_ok (hC : CX G F c bv X) (x y : Int32) : AC G mL_stepJet 12 1 6 [.ref c, .int x, .int y] F (XQ G c bv X (.inl (some (.int (rn [-7700] (if hsB X.sg.Fg x y = true then 0 else 1) (nI (g3 (fg X.sg.Fg (cl x)) (cl y)).2.1))))) F) := by
  have hpr : (if hsB X.sg.Fg x y = true then 0 else 1) ≤ 1 := by split <;> omega
  have hK := X8_stepJet_ok hC x y
  obtain ⟨hn, hf, ⟨c0, -⟩, -⟩ := hC
  refine AC.ofH [some (.ref c), some (.int x), some (.int y), none] rfl (by decide) (Nat.le_of_ble_eq_true rfl) rfl ?_
  refine AF.aload_n dL_stepJet_0 rfl ?_
  refine AF.iload_n dL_stepJet_1 rfl ?_
  refine AF.iload_n dL_stepJet_2 rfl ?_
  refine AF.callVH (bc := 0) (bs := 0) (mc' := 1) (ms' := 6) dL_stepJet_3 kv_L_88 hK c0 rfl rfl rfl (Nat.le_of_ble_eq_true rfl) (by decide) (fun E F' q => ?_) (fun v F' q => ?_)
  · obtain ⟨e1, e2⟩ := rx_x q.1
    rcases (by omega : (if hsB X.sg.Fg x y = true then 0 else 1) = 1) with hp
    · rw [hp] at e2
      subst e2
      refine ⟨_, _, hx_stepJet_0, fun q9 => ?_⟩
      refine AF.astore_n dL_stepJet_7 (by decide) ?_
      refine AF.sipush (-7700) dL_stepJet_8 (by decide) ?_
      exact AF.ireturn dL_stepJet_11 rfl ⟨by rw [hp]; rfl, q.2⟩
  · obtain ⟨hp, rfl⟩ := rx_n q.1
    exact AF.ireturn dL_stepJet_6 rfl ⟨by rw [hp]; rfl, q.2⟩
theorem hx_stepOpening_0 : HX mL_stepOpening 3 "java/lang/IndexOutOfBoundsException" [] (0, 6, 7, 29) := ⟨⟨[], rfl⟩, fun z hz => absurd hz List.not_mem_nil, by decide +kernel, by decide, "java/lang/IndexOutOfBoundsException", tb 597 (by decide +kernel), tb 538 (by decide +kernel)⟩
set_option maxRecDepth 100000 in
set_option maxHeartbeats 1000000 in
theorem L_stepOpening_ok (hC : CX G F c bv X) (x y : Int32) : AC G mL_stepOpening 12 1 6 [.ref c, .int x, .int y] F (XQ G c bv X (.inl (some (.int (rn [-7700] (if hsB X.sg.Fg x y = true then 0 else 1) (nI (g3 (fg X.sg.Fg (cl x)) (cl y)).2.2))))) F) := by
  have hpr : (if hsB X.sg.Fg x y = true then 0 else 1) ≤ 1 := by split <;> omega
  have hK := X8_stepOpening_ok hC x y
  obtain ⟨hn, hf, ⟨c0, -⟩, -⟩ := hC
  refine AC.ofH [some (.ref c), some (.int x), some (.int y), none] rfl (by decide) (Nat.le_of_ble_eq_true rfl) rfl ?_
  refine AF.aload_n dL_stepOpening_0 rfl ?_
  refine AF.iload_n dL_stepOpening_1 rfl ?_
  refine AF.iload_n dL_stepOpening_2 rfl ?_
  refine AF.callVH (bc := 0) (bs := 0) (mc' := 1) (ms' := 6) dL_stepOpening_3 kv_L_91 hK c0 rfl rfl rfl (Nat.le_of_ble_eq_true rfl) (by decide) (fun E F' q => ?_) (fun v F' q => ?_)
  · obtain ⟨e1, e2⟩ := rx_x q.1
    rcases (by omega : (if hsB X.sg.Fg x y = true then 0 else 1) = 1) with hp
    · rw [hp] at e2
      subst e2
      refine ⟨_, _, hx_stepOpening_0, fun q9 => ?_⟩
      refine AF.astore_n dL_stepOpening_7 (by decide) ?_
      refine AF.sipush (-7700) dL_stepOpening_8 (by decide) ?_
      exact AF.ireturn dL_stepOpening_11 rfl ⟨by rw [hp]; rfl, q.2⟩
  · obtain ⟨hp, rfl⟩ := rx_n q.1
    exact AF.ireturn dL_stepOpening_6 rfl ⟨by rw [hp]; rfl, q.2⟩
theorem hx_figureLength_0 : HX mL_figureLength 2 "java/lang/IndexOutOfBoundsException" [] (0, 5, 6, 29) := ⟨⟨[], rfl⟩, fun z hz => absurd hz List.not_mem_nil, by decide +kernel, by decide, "java/lang/IndexOutOfBoundsException", tb 597 (by decide +kernel), tb 538 (by decide +kernel)⟩
set_option maxRecDepth 100000 in
set_option maxHeartbeats 1000000 in
theorem L_figureLength_ok {B : Nat} (hC : CX G F c bv X) (x : Int32) (hI : SQ X.sg B) : AC G mL_figureLength 12 1 6 [.ref c, .int x] F (XQ G c bv X (.inl (some (.int (rn [-7700] (if hasB X.sg.Fg.length x = true then 0 else 1) (nI (fln (fg X.sg.Fg (cl x)))))))) F) := by
  have hpr : (if hasB X.sg.Fg.length x = true then 0 else 1) ≤ 1 := by split <;> omega
  have hK := X8_figureLength_ok hC hI x
  obtain ⟨hn, hf, ⟨c0, -⟩, -⟩ := hC
  refine AC.ofH [some (.ref c), some (.int x), none] rfl (by decide) (Nat.le_of_ble_eq_true rfl) rfl ?_
  refine AF.aload_n dL_figureLength_0 rfl ?_
  refine AF.iload_n dL_figureLength_1 rfl ?_
  refine AF.callVH (bc := 0) (bs := 0) (mc' := 1) (ms' := 6) dL_figureLength_2 kv_L_94 hK c0 rfl rfl rfl (Nat.le_of_ble_eq_true rfl) (by decide) (fun E F' q => ?_) (fun v F' q => ?_)
  · obtain ⟨e1, e2⟩ := rx_x q.1
    rcases (by omega : (if hasB X.sg.Fg.length x = true then 0 else 1) = 1) with hp
    · rw [hp] at e2
      subst e2
      refine ⟨_, _, hx_figureLength_0, fun q9 => ?_⟩
      refine AF.astore_n dL_figureLength_6 (by decide) ?_
      refine AF.sipush (-7700) dL_figureLength_7 (by decide) ?_
      exact AF.ireturn dL_figureLength_10 rfl ⟨by rw [hp]; rfl, q.2⟩
  · obtain ⟨hp, rfl⟩ := rx_n q.1
    exact AF.ireturn dL_figureLength_5 rfl ⟨by rw [hp]; rfl, q.2⟩
theorem hx_figuresUsing_0 : HX mL_figuresUsing 2 "java/lang/IndexOutOfBoundsException" [] (0, 5, 6, 29) := ⟨⟨[], rfl⟩, fun z hz => absurd hz List.not_mem_nil, by decide +kernel, by decide, "java/lang/IndexOutOfBoundsException", tb 597 (by decide +kernel), tb 538 (by decide +kernel)⟩
set_option maxRecDepth 100000 in
set_option maxHeartbeats 1000000 in
theorem L_figuresUsing_ok {B : Nat} (hC : CX G F c bv X) (x : Int32) (hI : SQ X.sg B) : AC G mL_figuresUsing 12 1 6 [.ref c, .int x] F (XQ G c bv X (.inl (some (.int (rn [-7700] (if hasB X.sg.J.length x = true then 0 else 1) (nI (cntB (fun i => fus (fg X.sg.Fg i) (cl x)) X.sg.Fg.length)))))) F) := by
  have hpr : (if hasB X.sg.J.length x = true then 0 else 1) ≤ 1 := by split <;> omega
  have hK := X8_figuresUsing_ok hC hI x
  obtain ⟨hn, hf, ⟨c0, -⟩, -⟩ := hC
  refine AC.ofH [some (.ref c), some (.int x), none] rfl (by decide) (Nat.le_of_ble_eq_true rfl) rfl ?_
  refine AF.aload_n dL_figuresUsing_0 rfl ?_
  refine AF.iload_n dL_figuresUsing_1 rfl ?_
  refine AF.callVH (bc := 0) (bs := 0) (mc' := 1) (ms' := 6) dL_figuresUsing_2 kv_L_97 hK c0 rfl rfl rfl (Nat.le_of_ble_eq_true rfl) (by decide) (fun E F' q => ?_) (fun v F' q => ?_)
  · obtain ⟨e1, e2⟩ := rx_x q.1
    rcases (by omega : (if hasB X.sg.J.length x = true then 0 else 1) = 1) with hp
    · rw [hp] at e2
      subst e2
      refine ⟨_, _, hx_figuresUsing_0, fun q9 => ?_⟩
      refine AF.astore_n dL_figuresUsing_6 (by decide) ?_
      refine AF.sipush (-7700) dL_figuresUsing_7 (by decide) ?_
      exact AF.ireturn dL_figuresUsing_10 rfl ⟨by rw [hp]; rfl, q.2⟩
  · obtain ⟨hp, rfl⟩ := rx_n q.1
    exact AF.ireturn dL_figuresUsing_5 rfl ⟨by rw [hp]; rfl, q.2⟩
theorem hx_play_0 : HX mL_play 3 "java/lang/IndexOutOfBoundsException" [] (0, 6, 7, 29) := ⟨⟨[(0, 6, 12, 20), (0, 6, 17, 24)], rfl⟩, fun z hz => absurd hz List.not_mem_nil, by decide +kernel, by decide, "java/lang/IndexOutOfBoundsException", tb 597 (by decide +kernel), tb 538 (by decide +kernel)⟩
theorem hx_play_1 : HX mL_play 3 "java/lang/IllegalArgumentException" [(0, 6, 7, 29)] (0, 6, 12, 20) := ⟨⟨[(0, 6, 17, 24)], rfl⟩, (fun z hz => by
    rcases (by simpa using hz : z = (0, 6, 7, 29)) with rfl
    · exact ⟨by decide, "java/lang/IndexOutOfBoundsException", tb 597 (by decide +kernel), by decide +kernel⟩), by decide +kernel, by decide, "java/lang/IllegalArgumentException", tb 336 (by decide +kernel), tb 346 (by decide +kernel)⟩
theorem hx_play_2 : HX mL_play 3 "java/lang/IllegalStateException" [(0, 6, 7, 29), (0, 6, 12, 20)] (0, 6, 17, 24) := ⟨⟨[], rfl⟩, (fun z hz => by
    rcases (by simpa using hz : z = (0, 6, 7, 29) ∨ z = (0, 6, 12, 20)) with rfl | rfl
    · exact ⟨by decide, "java/lang/IndexOutOfBoundsException", tb 597 (by decide +kernel), by decide +kernel⟩
    · exact ⟨by decide, "java/lang/IllegalArgumentException", tb 336 (by decide +kernel), by decide +kernel⟩), by decide +kernel, by decide, "java/lang/IllegalStateException", tb 504 (by decide +kernel), tb 571 (by decide +kernel)⟩
set_option maxRecDepth 100000 in
set_option maxHeartbeats 1000000 in
theorem L_play_ok {B : Nat} (hC : CX G F c bv X) (x y : Int32) (ha : gN G ≤ c) (hI : SQ X.sg B) : AC G mL_play 12 1 6 [.ref c, .int x, .int y] F (XQ G c bv (chX X (aPly X.sg x y) (if pPly X.sg x y = 4 then 3 else pPly X.sg x y)) (.inl (some (.int (rn [-7700, -7800, -7900] (if pPly X.sg x y = 4 then 3 else pPly X.sg x y) (nI (X.sg.bt + cl y)))))) F) := by
  have hpr : (if pPly X.sg x y = 4 then 3 else pPly X.sg x y) ≤ 3 := by have := pPly_v (σ := X.sg) (x := x) (y := y); split <;> omega
  have hK := X8_play_ok hC ha hI x y
  obtain ⟨hn, hf, ⟨c0, -⟩, -⟩ := hC
  refine AC.ofH [some (.ref c), some (.int x), some (.int y), none] rfl (by decide) (Nat.le_of_ble_eq_true rfl) rfl ?_
  refine AF.aload_n dL_play_0 rfl ?_
  refine AF.iload_n dL_play_1 rfl ?_
  refine AF.iload_n dL_play_2 rfl ?_
  refine AF.callVH (bc := 0) (bs := 0) (mc' := 1) (ms' := 6) dL_play_3 kv_L_100 hK c0 rfl rfl rfl (Nat.le_of_ble_eq_true rfl) (by decide) (fun E F' q => ?_) (fun v F' q => ?_)
  · obtain ⟨e1, e2⟩ := rx_x q.1
    rcases (by omega : (if pPly X.sg x y = 4 then 3 else pPly X.sg x y) = 1 ∨ (if pPly X.sg x y = 4 then 3 else pPly X.sg x y) = 2 ∨ (if pPly X.sg x y = 4 then 3 else pPly X.sg x y) = 3) with hp | hp | hp
    · rw [hp] at e2
      subst e2
      refine ⟨_, _, hx_play_0, fun q9 => ?_⟩
      refine AF.astore_n dL_play_7 (by decide) ?_
      refine AF.sipush (-7700) dL_play_8 (by decide) ?_
      exact AF.ireturn dL_play_11 rfl ⟨by rw [hp]; rfl, q.2⟩
    · rw [hp] at e2
      subst e2
      refine ⟨_, _, hx_play_1, fun q9 => ?_⟩
      refine AF.astore_n dL_play_12 (by decide) ?_
      refine AF.sipush (-7800) dL_play_13 (by decide) ?_
      exact AF.ireturn dL_play_16 rfl ⟨by rw [hp]; rfl, q.2⟩
    · rw [hp] at e2
      subst e2
      refine ⟨_, _, hx_play_2, fun q9 => ?_⟩
      refine AF.astore_n dL_play_17 (by decide) ?_
      refine AF.sipush (-7900) dL_play_18 (by decide) ?_
      exact AF.ireturn dL_play_21 rfl ⟨by rw [hp]; rfl, q.2⟩
  · obtain ⟨hp, rfl⟩ := rx_n q.1
    exact AF.ireturn dL_play_6 rfl ⟨by rw [hp]; rfl, q.2⟩
theorem hx_cancel_0 : HX mL_cancel 2 "java/lang/IndexOutOfBoundsException" [] (0, 5, 6, 29) := ⟨⟨[], rfl⟩, fun z hz => absurd hz List.not_mem_nil, by decide +kernel, by decide, "java/lang/IndexOutOfBoundsException", tb 597 (by decide +kernel), tb 538 (by decide +kernel)⟩
set_option maxRecDepth 100000 in
set_option maxHeartbeats 1000000 in
theorem L_cancel_ok {B : Nat} (hC : CX G F c bv X) (x : Int32) (ha : gN G ≤ c) (hI : SQ X.sg B) : AC G mL_cancel 12 1 6 [.ref c, .int x] F (XQ G c bv (chX X (aCan X.sg x) (if hasB X.sg.E.length x = true then 0 else 1)) (.inl (some (.int (rn [-7700] (if hasB X.sg.E.length x = true then 0 else 1) (nI (en X.sg.E (cl x)).2))))) F) := by
  have hpr : (if hasB X.sg.E.length x = true then 0 else 1) ≤ 1 := by split <;> omega
  have hK := X8_cancel_ok hC ha hI x
  obtain ⟨hn, hf, ⟨c0, -⟩, -⟩ := hC
  refine AC.ofH [some (.ref c), some (.int x), none] rfl (by decide) (Nat.le_of_ble_eq_true rfl) rfl ?_
  refine AF.aload_n dL_cancel_0 rfl ?_
  refine AF.iload_n dL_cancel_1 rfl ?_
  refine AF.callVH (bc := 0) (bs := 0) (mc' := 1) (ms' := 6) dL_cancel_2 kv_L_103 hK c0 rfl rfl rfl (Nat.le_of_ble_eq_true rfl) (by decide) (fun E F' q => ?_) (fun v F' q => ?_)
  · obtain ⟨e1, e2⟩ := rx_x q.1
    rcases (by omega : (if hasB X.sg.E.length x = true then 0 else 1) = 1) with hp
    · rw [hp] at e2
      subst e2
      refine ⟨_, _, hx_cancel_0, fun q9 => ?_⟩
      refine AF.astore_n dL_cancel_6 (by decide) ?_
      refine AF.sipush (-7700) dL_cancel_7 (by decide) ?_
      exact AF.ireturn dL_cancel_10 rfl ⟨by rw [hp]; rfl, q.2⟩
  · obtain ⟨hp, rfl⟩ := rx_n q.1
    exact AF.ireturn dL_cancel_5 rfl ⟨by rw [hp]; rfl, q.2⟩
theorem hx_pass_0 : HX mL_pass 2 "java/lang/IllegalArgumentException" [] (0, 5, 6, 20) := ⟨⟨[], rfl⟩, fun z hz => absurd hz List.not_mem_nil, by decide +kernel, by decide, "java/lang/IllegalArgumentException", tb 336 (by decide +kernel), tb 346 (by decide +kernel)⟩
set_option maxRecDepth 100000 in
set_option maxHeartbeats 1000000 in
theorem L_pass_ok {B : Nat} (hC : CX G F c bv X) (x : Int32) (ha : gN G ≤ c) (hI : SQ X.sg B) (hB : B + 40 ≤ 2 ^ 21) : AC G mL_pass 12 1 6 [.ref c, .int x] F (XQ G c bv (chX X (nxN X.sg (cl x)) (pPas x / 2)) (.inl (some (.int (rn [-7800] (pPas x / 2) (nI (nxF X.sg (cl x))))))) F) := by
  have hpr : (pPas x / 2) ≤ 1 := by have := pPas_v (x := x); omega
  have hK := X8_pass_ok hC ha hI hB x
  obtain ⟨hn, hf, ⟨c0, -⟩, -⟩ := hC
  refine AC.ofH [some (.ref c), some (.int x), none] rfl (by decide) (Nat.le_of_ble_eq_true rfl) rfl ?_
  refine AF.aload_n dL_pass_0 rfl ?_
  refine AF.iload_n dL_pass_1 rfl ?_
  refine AF.callVH (bc := 0) (bs := 0) (mc' := 1) (ms' := 6) dL_pass_2 kv_L_106 hK c0 rfl rfl rfl (Nat.le_of_ble_eq_true rfl) (by decide) (fun E F' q => ?_) (fun v F' q => ?_)
  · obtain ⟨e1, e2⟩ := rx_x q.1
    rcases (by omega : (pPas x / 2) = 1) with hp
    · rw [hp] at e2
      subst e2
      refine ⟨_, _, hx_pass_0, fun q9 => ?_⟩
      refine AF.astore_n dL_pass_6 (by decide) ?_
      refine AF.sipush (-7800) dL_pass_7 (by decide) ?_
      exact AF.ireturn dL_pass_10 rfl ⟨by rw [hp]; rfl, q.2⟩
  · obtain ⟨hp, rfl⟩ := rx_n q.1
    exact AF.ireturn dL_pass_5 rfl ⟨by rw [hp]; rfl, q.2⟩
theorem hx_entryFigure_0 : HX mL_entryFigure 2 "java/lang/IndexOutOfBoundsException" [] (0, 5, 6, 29) := ⟨⟨[], rfl⟩, fun z hz => absurd hz List.not_mem_nil, by decide +kernel, by decide, "java/lang/IndexOutOfBoundsException", tb 597 (by decide +kernel), tb 538 (by decide +kernel)⟩
set_option maxRecDepth 100000 in
set_option maxHeartbeats 1000000 in
theorem L_entryFigure_ok (hC : CX G F c bv X) (x : Int32) : AC G mL_entryFigure 12 1 6 [.ref c, .int x] F (XQ G c bv X (.inl (some (.int (rn [-7700] (if hasB X.sg.E.length x = true then 0 else 1) (nI (en X.sg.E (cl x)).1))))) F) := by
  have hpr : (if hasB X.sg.E.length x = true then 0 else 1) ≤ 1 := by split <;> omega
  have hK := X8_entryFigure_ok hC x
  obtain ⟨hn, hf, ⟨c0, -⟩, -⟩ := hC
  refine AC.ofH [some (.ref c), some (.int x), none] rfl (by decide) (Nat.le_of_ble_eq_true rfl) rfl ?_
  refine AF.aload_n dL_entryFigure_0 rfl ?_
  refine AF.iload_n dL_entryFigure_1 rfl ?_
  refine AF.callVH (bc := 0) (bs := 0) (mc' := 1) (ms' := 6) dL_entryFigure_2 kv_L_109 hK c0 rfl rfl rfl (Nat.le_of_ble_eq_true rfl) (by decide) (fun E F' q => ?_) (fun v F' q => ?_)
  · obtain ⟨e1, e2⟩ := rx_x q.1
    rcases (by omega : (if hasB X.sg.E.length x = true then 0 else 1) = 1) with hp
    · rw [hp] at e2
      subst e2
      refine ⟨_, _, hx_entryFigure_0, fun q9 => ?_⟩
      refine AF.astore_n dL_entryFigure_6 (by decide) ?_
      refine AF.sipush (-7700) dL_entryFigure_7 (by decide) ?_
      exact AF.ireturn dL_entryFigure_10 rfl ⟨by rw [hp]; rfl, q.2⟩
  · obtain ⟨hp, rfl⟩ := rx_n q.1
    exact AF.ireturn dL_entryFigure_5 rfl ⟨by rw [hp]; rfl, q.2⟩
theorem hx_entryStart_0 : HX mL_entryStart 2 "java/lang/IndexOutOfBoundsException" [] (0, 5, 6, 29) := ⟨⟨[], rfl⟩, fun z hz => absurd hz List.not_mem_nil, by decide +kernel, by decide, "java/lang/IndexOutOfBoundsException", tb 597 (by decide +kernel), tb 538 (by decide +kernel)⟩
set_option maxRecDepth 100000 in
set_option maxHeartbeats 1000000 in
theorem L_entryStart_ok (hC : CX G F c bv X) (x : Int32) : AC G mL_entryStart 12 1 6 [.ref c, .int x] F (XQ G c bv X (.inl (some (.int (rn [-7700] (if hasB X.sg.E.length x = true then 0 else 1) (nI (en X.sg.E (cl x)).2))))) F) := by
  have hpr : (if hasB X.sg.E.length x = true then 0 else 1) ≤ 1 := by split <;> omega
  have hK := X8_entryStart_ok hC x
  obtain ⟨hn, hf, ⟨c0, -⟩, -⟩ := hC
  refine AC.ofH [some (.ref c), some (.int x), none] rfl (by decide) (Nat.le_of_ble_eq_true rfl) rfl ?_
  refine AF.aload_n dL_entryStart_0 rfl ?_
  refine AF.iload_n dL_entryStart_1 rfl ?_
  refine AF.callVH (bc := 0) (bs := 0) (mc' := 1) (ms' := 6) dL_entryStart_2 kv_L_112 hK c0 rfl rfl rfl (Nat.le_of_ble_eq_true rfl) (by decide) (fun E F' q => ?_) (fun v F' q => ?_)
  · obtain ⟨e1, e2⟩ := rx_x q.1
    rcases (by omega : (if hasB X.sg.E.length x = true then 0 else 1) = 1) with hp
    · rw [hp] at e2
      subst e2
      refine ⟨_, _, hx_entryStart_0, fun q9 => ?_⟩
      refine AF.astore_n dL_entryStart_6 (by decide) ?_
      refine AF.sipush (-7700) dL_entryStart_7 (by decide) ?_
      exact AF.ireturn dL_entryStart_10 rfl ⟨by rw [hp]; rfl, q.2⟩
  · obtain ⟨hp, rfl⟩ := rx_n q.1
    exact AF.ireturn dL_entryStart_5 rfl ⟨by rw [hp]; rfl, q.2⟩
theorem hx_demandAfter_0 : HX mL_demandAfter 2 "java/lang/IllegalArgumentException" [] (0, 5, 6, 20) := ⟨⟨[], rfl⟩, fun z hz => absurd hz List.not_mem_nil, by decide +kernel, by decide, "java/lang/IllegalArgumentException", tb 336 (by decide +kernel), tb 346 (by decide +kernel)⟩
set_option maxRecDepth 100000 in
set_option maxHeartbeats 1000000 in
theorem L_demandAfter_ok {B : Nat} (hC : CX G F c bv X) (x : Int32) (ha : gN G ≤ c) (hI : SQ X.sg B) (hB : B + 40 ≤ 2 ^ 21) : AC G mL_demandAfter 12 1 6 [.ref c, .int x] F (XQ G c bv X (.inl (some (.int (rn [-7800] (if inB x 0 40 = true then 0 else 1) (nI (dem (nxN X.sg (cl x)).J)))))) F) := by
  have hpr : (if inB x 0 40 = true then 0 else 1) ≤ 1 := by split <;> omega
  have hK := X8_demandAfter_ok hC ha hI hB x
  obtain ⟨hn, hf, ⟨c0, -⟩, -⟩ := hC
  refine AC.ofH [some (.ref c), some (.int x), none] rfl (by decide) (Nat.le_of_ble_eq_true rfl) rfl ?_
  refine AF.aload_n dL_demandAfter_0 rfl ?_
  refine AF.iload_n dL_demandAfter_1 rfl ?_
  refine AF.callVH (bc := 0) (bs := 0) (mc' := 1) (ms' := 6) dL_demandAfter_2 kv_L_115 hK c0 rfl rfl rfl (Nat.le_of_ble_eq_true rfl) (by decide) (fun E F' q => ?_) (fun v F' q => ?_)
  · obtain ⟨e1, e2⟩ := rx_x q.1
    rcases (by omega : (if inB x 0 40 = true then 0 else 1) = 1) with hp
    · rw [hp] at e2
      subst e2
      refine ⟨_, _, hx_demandAfter_0, fun q9 => ?_⟩
      refine AF.astore_n dL_demandAfter_6 (by decide) ?_
      refine AF.sipush (-7800) dL_demandAfter_7 (by decide) ?_
      exact AF.ireturn dL_demandAfter_10 rfl ⟨by rw [hp]; rfl, q.2⟩
  · obtain ⟨hp, rfl⟩ := rx_n q.1
    exact AF.ireturn dL_demandAfter_5 rfl ⟨by rw [hp]; rfl, q.2⟩
theorem hx_demandAfterBySteps_0 : HX mL_demandAfterBySteps 2 "java/lang/IllegalArgumentException" [] (0, 5, 6, 20) := ⟨⟨[], rfl⟩, fun z hz => absurd hz List.not_mem_nil, by decide +kernel, by decide, "java/lang/IllegalArgumentException", tb 336 (by decide +kernel), tb 346 (by decide +kernel)⟩
set_option maxRecDepth 100000 in
set_option maxHeartbeats 1000000 in
theorem L_demandAfterBySteps_ok {B : Nat} (hC : CX G F c bv X) (x : Int32) (hI : SQ X.sg B) : AC G mL_demandAfterBySteps 12 1 6 [.ref c, .int x] F (XQ G c bv X (.inl (some (.int (rn [-7800] (if inB x 0 40 = true then 0 else 1) (nI (dem (nxN X.sg (cl x)).J)))))) F) := by
  have hpr : (if inB x 0 40 = true then 0 else 1) ≤ 1 := by split <;> omega
  have hK := X8_demandAfterBySteps_ok hC hI x
  obtain ⟨hn, hf, ⟨c0, -⟩, -⟩ := hC
  refine AC.ofH [some (.ref c), some (.int x), none] rfl (by decide) (Nat.le_of_ble_eq_true rfl) rfl ?_
  refine AF.aload_n dL_demandAfterBySteps_0 rfl ?_
  refine AF.iload_n dL_demandAfterBySteps_1 rfl ?_
  refine AF.callVH (bc := 0) (bs := 0) (mc' := 1) (ms' := 6) dL_demandAfterBySteps_2 kv_L_118 hK c0 rfl rfl rfl (Nat.le_of_ble_eq_true rfl) (by decide) (fun E F' q => ?_) (fun v F' q => ?_)
  · obtain ⟨e1, e2⟩ := rx_x q.1
    rcases (by omega : (if inB x 0 40 = true then 0 else 1) = 1) with hp
    · rw [hp] at e2
      subst e2
      refine ⟨_, _, hx_demandAfterBySteps_0, fun q9 => ?_⟩
      refine AF.astore_n dL_demandAfterBySteps_6 (by decide) ?_
      refine AF.sipush (-7800) dL_demandAfterBySteps_7 (by decide) ?_
      exact AF.ireturn dL_demandAfterBySteps_10 rfl ⟨by rw [hp]; rfl, q.2⟩
  · obtain ⟨hp, rfl⟩ := rx_n q.1
    exact AF.ireturn dL_demandAfterBySteps_5 rfl ⟨by rw [hp]; rfl, q.2⟩
theorem hx_firstOverload_0 : HX mL_firstOverload 2 "java/lang/IllegalArgumentException" [] (0, 5, 6, 20) := ⟨⟨[(0, 5, 11, 55)], rfl⟩, fun z hz => absurd hz List.not_mem_nil, by decide +kernel, by decide, "java/lang/IllegalArgumentException", tb 336 (by decide +kernel), tb 346 (by decide +kernel)⟩
theorem hx_firstOverload_1 : HX mL_firstOverload 2 "java/util/NoSuchElementException" [(0, 5, 6, 20)] (0, 5, 11, 55) := ⟨⟨[], rfl⟩, (fun z hz => by
    rcases (by simpa using hz : z = (0, 5, 6, 20)) with rfl
    · exact ⟨by decide, "java/lang/IllegalArgumentException", tb 336 (by decide +kernel), by decide +kernel⟩), by decide +kernel, by decide, "java/util/NoSuchElementException", tb 467 (by decide +kernel), tb 475 (by decide +kernel)⟩
set_option maxRecDepth 100000 in
set_option maxHeartbeats 1000000 in
theorem L_firstOverload_ok {B : Nat} (hC : CX G F c bv X) (x : Int32) (ha : gN G ≤ c) (hI : SQ X.sg B) (hB : B + 40 ≤ 2 ^ 21) : AC G mL_firstOverload 12 2 12 [.ref c, .int x] F (XQ G c bv X (.inl (some (.int (rn [-7800, -7500] (if inB x 0 40 = true then (if (fov X.sg (cl x)).isSome = true then 0 else 2) else 1) (nI ((fov X.sg (cl x)).getD 0 + 1)))))) F) := by
  have hpr : (if inB x 0 40 = true then (if (fov X.sg (cl x)).isSome = true then 0 else 2) else 1) ≤ 2 := by split <;> (try split) <;> omega
  have hK := X8_firstOverload_ok hC ha hI hB x
  obtain ⟨hn, hf, ⟨c0, -⟩, -⟩ := hC
  refine AC.ofH [some (.ref c), some (.int x), none] rfl (by decide) (Nat.le_of_ble_eq_true rfl) rfl ?_
  refine AF.aload_n dL_firstOverload_0 rfl ?_
  refine AF.iload_n dL_firstOverload_1 rfl ?_
  refine AF.callVH (bc := 0) (bs := 0) (mc' := 2) (ms' := 12) dL_firstOverload_2 kv_L_121 hK c0 rfl rfl rfl (Nat.le_of_ble_eq_true rfl) (by decide) (fun E F' q => ?_) (fun v F' q => ?_)
  · obtain ⟨e1, e2⟩ := rx_x q.1
    rcases (by omega : (if inB x 0 40 = true then (if (fov X.sg (cl x)).isSome = true then 0 else 2) else 1) = 1 ∨ (if inB x 0 40 = true then (if (fov X.sg (cl x)).isSome = true then 0 else 2) else 1) = 2) with hp | hp
    · rw [hp] at e2
      subst e2
      refine ⟨_, _, hx_firstOverload_0, fun q9 => ?_⟩
      refine AF.astore_n dL_firstOverload_6 (by decide) ?_
      refine AF.sipush (-7800) dL_firstOverload_7 (by decide) ?_
      exact AF.ireturn dL_firstOverload_10 rfl ⟨by rw [hp]; rfl, q.2⟩
    · rw [hp] at e2
      subst e2
      refine ⟨_, _, hx_firstOverload_1, fun q9 => ?_⟩
      refine AF.astore_n dL_firstOverload_11 (by decide) ?_
      refine AF.sipush (-7500) dL_firstOverload_12 (by decide) ?_
      exact AF.ireturn dL_firstOverload_15 rfl ⟨by rw [hp]; rfl, q.2⟩
  · obtain ⟨hp, rfl⟩ := rx_n q.1
    exact AF.ireturn dL_firstOverload_5 rfl ⟨by rw [hp]; rfl, q.2⟩
theorem hx_meanOpening_0 : HX mL_meanOpening 1 "java/lang/ArithmeticException" [] (0, 4, 5, 128) := ⟨⟨[], rfl⟩, fun z hz => absurd hz List.not_mem_nil, by decide +kernel, by decide, "java/lang/ArithmeticException", tb 1480 (by decide +kernel), tb 1492 (by decide +kernel)⟩
set_option maxRecDepth 100000 in
set_option maxHeartbeats 1000000 in
theorem L_meanOpening_ok {B : Nat} (hC : CX G F c bv X) (hI : SQ X.sg B) : AC G mL_meanOpening 12 1 6 [.ref c] F (XQ G c bv X (.inl (some (.double (if (if X.sg.J.length = 0 then 1 else 0) = 0 then FP.ddiv (FP.i2d (nI (dem X.sg.J))) (FP.i2d (nI X.sg.J.length)) else 13888230437601411072)))) F) := by
  have hpr : (if X.sg.J.length = 0 then 1 else 0) ≤ 1 := by split <;> omega
  have hK := X8_meanOpening_ok hC hI
  obtain ⟨hn, hf, ⟨c0, -⟩, -⟩ := hC
  refine AC.ofH [some (.ref c), none] rfl (by decide) (Nat.le_of_ble_eq_true rfl) rfl ?_
  refine AF.aload_n dL_meanOpening_0 rfl ?_
  refine AF.callVH (bc := 0) (bs := 0) (mc' := 1) (ms' := 6) dL_meanOpening_1 kv_L_124 hK c0 rfl rfl rfl (Nat.le_of_ble_eq_true rfl) (by decide) (fun E F' q => ?_) (fun v F' q => ?_)
  · obtain ⟨e1, e2⟩ := rx_x q.1
    rcases (by omega : (if X.sg.J.length = 0 then 1 else 0) = 1) with hp
    · rw [hp] at e2
      subst e2
      refine ⟨_, _, hx_meanOpening_0, fun q9 => ?_⟩
      refine AF.astore_n dL_meanOpening_5 (by decide) ?_
      refine AF.ldc2D dL_meanOpening_6 kl_L_130 ?_
      exact AF.dreturn dL_meanOpening_9 rfl ⟨by rw [hp]; rfl, q.2⟩
  · obtain ⟨hp, rfl⟩ := rx_n q.1
    exact AF.dreturn dL_meanOpening_4 rfl ⟨by rw [hp]; rfl, q.2⟩
theorem hx_supplyFraction_0 : HX mL_supplyFraction 1 "java/lang/ArithmeticException" [] (0, 4, 5, 128) := ⟨⟨[], rfl⟩, fun z hz => absurd hz List.not_mem_nil, by decide +kernel, by decide, "java/lang/ArithmeticException", tb 1480 (by decide +kernel), tb 1492 (by decide +kernel)⟩
set_option maxRecDepth 100000 in
set_option maxHeartbeats 1000000 in
theorem L_supplyFraction_ok {B : Nat} (hC : CX G F c bv X) (hI : SQ X.sg B) : AC G mL_supplyFraction 12 1 6 [.ref c] F (XQ G c bv X (.inl (some (.float (if (if dem X.sg.J = 0 then 1 else 0) = 0 then FP.fdiv (FP.i2f (nI (sup X.sg.J X.sg.cap))) (FP.i2f (nI (dem X.sg.J))) else 3320266752)))) F) := by
  have hpr : (if dem X.sg.J = 0 then 1 else 0) ≤ 1 := by split <;> omega
  have hK := X8_supplyFraction_ok hC hI
  obtain ⟨hn, hf, ⟨c0, -⟩, -⟩ := hC
  refine AC.ofH [some (.ref c), none] rfl (by decide) (Nat.le_of_ble_eq_true rfl) rfl ?_
  refine AF.aload_n dL_supplyFraction_0 rfl ?_
  refine AF.callVH (bc := 0) (bs := 0) (mc' := 1) (ms' := 6) dL_supplyFraction_1 kv_L_132 hK c0 rfl rfl rfl (Nat.le_of_ble_eq_true rfl) (by decide) (fun E F' q => ?_) (fun v F' q => ?_)
  · obtain ⟨e1, e2⟩ := rx_x q.1
    rcases (by omega : (if dem X.sg.J = 0 then 1 else 0) = 1) with hp
    · rw [hp] at e2
      subst e2
      refine ⟨_, _, hx_supplyFraction_0, fun q9 => ?_⟩
      refine AF.astore_n dL_supplyFraction_5 (by decide) ?_
      refine AF.ldcF dL_supplyFraction_6 kl_L_136 ?_
      exact AF.freturn dL_supplyFraction_8 rfl ⟨by rw [hp]; rfl, q.2⟩
  · obtain ⟨hp, rfl⟩ := rx_n q.1
    exact AF.freturn dL_supplyFraction_4 rfl ⟨by rw [hp]; rfl, q.2⟩
theorem hx_writeFigure_0 : HX mL_writeFigure 2 "java/lang/IndexOutOfBoundsException" [] (0, 5, 6, 29) := ⟨⟨[], rfl⟩, fun z hz => absurd hz List.not_mem_nil, by decide +kernel, by decide, "java/lang/IndexOutOfBoundsException", tb 597 (by decide +kernel), tb 538 (by decide +kernel)⟩
set_option maxRecDepth 100000 in
set_option maxHeartbeats 1000000 in
theorem L_writeFigure_ok {B : Nat} (hC : CX G F c bv X) (x : Int32) (ha : gN G ≤ c) (hz : c + 131 ≤ F.1) (hI : SQ X.sg B) : AC G mL_writeFigure 12 50 6964 [.ref c, .int x] F (XQ G c bv (if hasB X.sg.Fg.length x = true then wrX X (cl x) else X) (.inl (some (.int (rn [-7700] (if hasB X.sg.Fg.length x = true then 0 else 1) (nI (wrF (fg X.sg.Fg (cl x)) (fg X.sg.Fg (cl x)).length).length))))) F) := by
  have hpr : (if hasB X.sg.Fg.length x = true then 0 else 1) ≤ 1 := by split <;> omega
  have hK := X8_writeFigure_ok hC ha hz hI x
  obtain ⟨hn, hf, ⟨c0, -⟩, -⟩ := hC
  refine AC.ofH [some (.ref c), some (.int x), none] rfl (by decide) (Nat.le_of_ble_eq_true rfl) rfl ?_
  refine AF.aload_n dL_writeFigure_0 rfl ?_
  refine AF.iload_n dL_writeFigure_1 rfl ?_
  refine AF.callVH (bc := 0) (bs := 0) (mc' := 50) (ms' := 6964) dL_writeFigure_2 kv_L_137 hK c0 rfl rfl rfl (Nat.le_of_ble_eq_true rfl) (by decide) (fun E F' q => ?_) (fun v F' q => ?_)
  · obtain ⟨e1, e2⟩ := rx_x q.1
    rcases (by omega : (if hasB X.sg.Fg.length x = true then 0 else 1) = 1) with hp
    · rw [hp] at e2
      subst e2
      refine ⟨_, _, hx_writeFigure_0, fun q9 => ?_⟩
      refine AF.astore_n dL_writeFigure_6 (by decide) ?_
      refine AF.sipush (-7700) dL_writeFigure_7 (by decide) ?_
      exact AF.ireturn dL_writeFigure_10 rfl ⟨by rw [hp]; rfl, q.2⟩
  · obtain ⟨hp, rfl⟩ := rx_n q.1
    exact AF.ireturn dL_writeFigure_5 rfl ⟨by rw [hp]; rfl, q.2⟩
theorem hx_outputCharacter_0 : HX mL_outputCharacter 2 "java/lang/IndexOutOfBoundsException" [] (0, 5, 6, 29) := ⟨⟨[], rfl⟩, fun z hz => absurd hz List.not_mem_nil, by decide +kernel, by decide, "java/lang/IndexOutOfBoundsException", tb 597 (by decide +kernel), tb 538 (by decide +kernel)⟩
set_option maxRecDepth 100000 in
set_option maxHeartbeats 1000000 in
theorem L_outputCharacter_ok {B : Nat} (hC : CX G F c bv X) (x : Int32) (hX : XI X B) : AC G mL_outputCharacter 12 1 6 [.ref c, .int x] F (XQ G c bv X (.inl (some (.int (rn [-7700] (if hasB X.ou.length x = true then 0 else 1) (X.ou.getD (cl x) 0))))) F) := by
  have hpr : (if hasB X.ou.length x = true then 0 else 1) ≤ 1 := by split <;> omega
  have hK := X8_outputCharacter_ok hC hX x
  obtain ⟨hn, hf, ⟨c0, -⟩, -⟩ := hC
  refine AC.ofH [some (.ref c), some (.int x), none] rfl (by decide) (Nat.le_of_ble_eq_true rfl) rfl ?_
  refine AF.aload_n dL_outputCharacter_0 rfl ?_
  refine AF.iload_n dL_outputCharacter_1 rfl ?_
  refine AF.callVH (bc := 0) (bs := 0) (mc' := 1) (ms' := 6) dL_outputCharacter_2 kv_L_140 hK c0 rfl rfl rfl (Nat.le_of_ble_eq_true rfl) (by decide) (fun E F' q => ?_) (fun v F' q => ?_)
  · obtain ⟨e1, e2⟩ := rx_x q.1
    rcases (by omega : (if hasB X.ou.length x = true then 0 else 1) = 1) with hp
    · rw [hp] at e2
      subst e2
      refine ⟨_, _, hx_outputCharacter_0, fun q9 => ?_⟩
      refine AF.astore_n dL_outputCharacter_6 (by decide) ?_
      refine AF.sipush (-7700) dL_outputCharacter_7 (by decide) ?_
      exact AF.ireturn dL_outputCharacter_10 rfl ⟨by rw [hp]; rfl, q.2⟩
  · obtain ⟨hp, rfl⟩ := rx_n q.1
    exact AF.ireturn dL_outputCharacter_5 rfl ⟨by rw [hp]; rfl, q.2⟩
theorem hx_feed_0 : HX mL_feed 2 "java/lang/IllegalStateException" [] (0, 5, 6, 24) := ⟨⟨[], rfl⟩, fun z hz => absurd hz List.not_mem_nil, by decide +kernel, by decide, "java/lang/IllegalStateException", tb 504 (by decide +kernel), tb 571 (by decide +kernel)⟩
set_option maxRecDepth 100000 in
set_option maxHeartbeats 1000000 in
theorem L_feed_ok (hC : CX G F c bv X) (x : Int32) (ha : gN G ≤ c) (hc : vp_nar .char x = x) : AC G mL_feed 12 1 6 [.ref c, .int x] F (XQ G c bv (fdX X x) (.inl (some (.int (rn [-7900] (if X.tx.length = 60 then 1 else 0) (nI (X.tx.length + 1)))))) F) := by
  have hpr : (if X.tx.length = 60 then 1 else 0) ≤ 1 := by split <;> omega
  have hK := X8_feed_ok hC ha x hc
  obtain ⟨hn, hf, ⟨c0, -⟩, -⟩ := hC
  refine AC.ofH [some (.ref c), some (.int x), none] rfl (by decide) (Nat.le_of_ble_eq_true rfl) rfl ?_
  refine AF.aload_n dL_feed_0 rfl ?_
  refine AF.iload_n dL_feed_1 rfl ?_
  refine AF.callVH (bc := 0) (bs := 0) (mc' := 1) (ms' := 6) dL_feed_2 kv_L_144 hK c0 rfl rfl rfl (Nat.le_of_ble_eq_true rfl) (by decide) (fun E F' q => ?_) (fun v F' q => ?_)
  · obtain ⟨e1, e2⟩ := rx_x q.1
    rcases (by omega : (if X.tx.length = 60 then 1 else 0) = 1) with hp
    · rw [hp] at e2
      subst e2
      refine ⟨_, _, hx_feed_0, fun q9 => ?_⟩
      refine AF.astore_n dL_feed_6 (by decide) ?_
      refine AF.sipush (-7900) dL_feed_7 (by decide) ?_
      exact AF.ireturn dL_feed_10 rfl ⟨by rw [hp]; rfl, q.2⟩
  · obtain ⟨hp, rfl⟩ := rx_n q.1
    exact AF.ireturn dL_feed_5 rfl ⟨by rw [hp]; rfl, q.2⟩
theorem hx_execute_0 : HX mL_execute 1 "java/lang/IllegalArgumentException" [] (0, 4, 5, 20) := ⟨⟨[(0, 4, 10, 22)], rfl⟩, fun z hz => absurd hz List.not_mem_nil, by decide +kernel, by decide, "java/lang/IllegalArgumentException", tb 336 (by decide +kernel), tb 346 (by decide +kernel)⟩
theorem hx_execute_1 : HX mL_execute 1 "java/lang/UnsupportedOperationException" [(0, 4, 5, 20)] (0, 4, 10, 22) := ⟨⟨[], rfl⟩, (fun z hz => by
    rcases (by simpa using hz : z = (0, 4, 5, 20)) with rfl
    · exact ⟨by decide, "java/lang/IllegalArgumentException", tb 336 (by decide +kernel), by decide +kernel⟩), by decide +kernel, by decide, "java/lang/UnsupportedOperationException", tb 503 (by decide +kernel), tb 555 (by decide +kernel)⟩
set_option maxRecDepth 100000 in
set_option maxHeartbeats 1000000 in
theorem L_execute_ok {B : Nat} (hC : CX G F c bv X) (ha : gN G ≤ c) (hI : SQ X.sg B) (hB : B + 2480 ≤ 2 ^ 21) : AC G mL_execute 12 1 6 [.ref c] F (XQ G c bv (exX X) (.inl (some (.int (rn [-7800, -7600] (exC X) (nI (exP X).2.2.length))))) F) := by
  have hpr : (exC X) ≤ 2 := by exact exC_le
  have hK := X8_execute_ok hC ha hI hB
  obtain ⟨hn, hf, ⟨c0, -⟩, -⟩ := hC
  refine AC.ofH [some (.ref c), none] rfl (by decide) (Nat.le_of_ble_eq_true rfl) rfl ?_
  refine AF.aload_n dL_execute_0 rfl ?_
  refine AF.callVH (bc := 0) (bs := 0) (mc' := 1) (ms' := 6) dL_execute_1 kv_L_148 hK c0 rfl rfl rfl (Nat.le_of_ble_eq_true rfl) (by decide) (fun E F' q => ?_) (fun v F' q => ?_)
  · obtain ⟨e1, e2⟩ := rx_x q.1
    rcases (by omega : (exC X) = 1 ∨ (exC X) = 2) with hp | hp
    · rw [hp] at e2
      subst e2
      refine ⟨_, _, hx_execute_0, fun q9 => ?_⟩
      refine AF.astore_n dL_execute_5 (by decide) ?_
      refine AF.sipush (-7800) dL_execute_6 (by decide) ?_
      exact AF.ireturn dL_execute_9 rfl ⟨by rw [hp]; rfl, q.2⟩
    · rw [hp] at e2
      subst e2
      refine ⟨_, _, hx_execute_1, fun q9 => ?_⟩
      refine AF.astore_n dL_execute_10 (by decide) ?_
      refine AF.sipush (-7600) dL_execute_11 (by decide) ?_
      exact AF.ireturn dL_execute_14 rfl ⟨by rw [hp]; rfl, q.2⟩
  · obtain ⟨hp, rfl⟩ := rx_n q.1
    exact AF.ireturn dL_execute_4 rfl ⟨by rw [hp]; rfl, q.2⟩
theorem hx_undo_0 : HX mL_undo 1 "java/lang/IllegalStateException" [] (0, 4, 5, 24) := ⟨⟨[], rfl⟩, fun z hz => absurd hz List.not_mem_nil, by decide +kernel, by decide, "java/lang/IllegalStateException", tb 504 (by decide +kernel), tb 571 (by decide +kernel)⟩
set_option maxRecDepth 100000 in
set_option maxHeartbeats 1000000 in
theorem L_undo_ok (hC : CX G F c bv X) (ha : gN G ≤ c) : AC G mL_undo 12 1 6 [.ref c] F (XQ G c bv (unX X) (.inl (some (.int (rn [-7900] (if X.hs.length = 0 then 1 else 0) (nI (X.hs.length - 1)))))) F) := by
  have hpr : (if X.hs.length = 0 then 1 else 0) ≤ 1 := by split <;> omega
  have hK := X8_undo_ok hC ha
  obtain ⟨hn, hf, ⟨c0, -⟩, -⟩ := hC
  refine AC.ofH [some (.ref c), none] rfl (by decide) (Nat.le_of_ble_eq_true rfl) rfl ?_
  refine AF.aload_n dL_undo_0 rfl ?_
  refine AF.callVH (bc := 0) (bs := 0) (mc' := 1) (ms' := 6) dL_undo_1 kv_L_157 hK c0 rfl rfl rfl (Nat.le_of_ble_eq_true rfl) (by decide) (fun E F' q => ?_) (fun v F' q => ?_)
  · obtain ⟨e1, e2⟩ := rx_x q.1
    rcases (by omega : (if X.hs.length = 0 then 1 else 0) = 1) with hp
    · rw [hp] at e2
      subst e2
      refine ⟨_, _, hx_undo_0, fun q9 => ?_⟩
      refine AF.astore_n dL_undo_5 (by decide) ?_
      refine AF.sipush (-7900) dL_undo_6 (by decide) ?_
      exact AF.ireturn dL_undo_9 rfl ⟨by rw [hp]; rfl, q.2⟩
  · obtain ⟨hp, rfl⟩ := rx_n q.1
    exact AF.ireturn dL_undo_4 rfl ⟨by rw [hp]; rfl, q.2⟩
theorem hx_restore_0 : HX mL_restore 1 "java/lang/IllegalStateException" [] (0, 4, 5, 24) := ⟨⟨[], rfl⟩, fun z hz => absurd hz List.not_mem_nil, by decide +kernel, by decide, "java/lang/IllegalStateException", tb 504 (by decide +kernel), tb 571 (by decide +kernel)⟩
set_option maxRecDepth 100000 in
set_option maxHeartbeats 1000000 in
theorem L_restore_ok (hC : CX G F c bv X) (ha : gN G ≤ c) : AC G mL_restore 12 1 6 [.ref c] F (XQ G c bv (reX X) (.inl (some (.int (rn [-7900] (if X.sv.isSome = true then 0 else 1) (nI (X.sv.getD s0).J.length))))) F) := by
  have hpr : (if X.sv.isSome = true then 0 else 1) ≤ 1 := by split <;> omega
  have hK := X8_restore_ok hC ha
  obtain ⟨hn, hf, ⟨c0, -⟩, -⟩ := hC
  refine AC.ofH [some (.ref c), none] rfl (by decide) (Nat.le_of_ble_eq_true rfl) rfl ?_
  refine AF.aload_n dL_restore_0 rfl ?_
  refine AF.callVH (bc := 0) (bs := 0) (mc' := 1) (ms' := 6) dL_restore_1 kv_L_160 hK c0 rfl rfl rfl (Nat.le_of_ble_eq_true rfl) (by decide) (fun E F' q => ?_) (fun v F' q => ?_)
  · obtain ⟨e1, e2⟩ := rx_x q.1
    rcases (by omega : (if X.sv.isSome = true then 0 else 1) = 1) with hp
    · rw [hp] at e2
      subst e2
      refine ⟨_, _, hx_restore_0, fun q9 => ?_⟩
      refine AF.astore_n dL_restore_5 (by decide) ?_
      refine AF.sipush (-7900) dL_restore_6 (by decide) ?_
      exact AF.ireturn dL_restore_9 rfl ⟨by rw [hp]; rfl, q.2⟩
  · obtain ⟨hp, rfl⟩ := rx_n q.1
    exact AF.ireturn dL_restore_4 rfl ⟨by rw [hp]; rfl, q.2⟩
end

