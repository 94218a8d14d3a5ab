/-! The show: its reading calls. -/
section
variable {G : GA} {F : AH} {c bv B : Nat} {X : XS}
set_option maxRecDepth 100000 in
set_option maxHeartbeats 1000000 in
theorem X8_jetCount_ok (hC : CX G F c bv X) : AC G mX8_jetCount 11 0 0 [.ref c] F (XQ G c bv X (rx [] 0 (.int (nI X.sg.J.length))) F) := by
  have hC0 := hC
  obtain ⟨hn, hf, ⟨c0, -⟩, -, hS, -⟩ := hC
  have hS0 := hS
  obtain ⟨ef, es, ⟨s0, s9, s10⟩, hE, hJ, hG⟩ := hS
  have hJ0 := hJ
  obtain ⟨f, g, ⟨j0, j1, j2⟩, l, hfg⟩ := hJ
  have hG0 := hG
  obtain ⟨sc, dl, jt, op, ⟨g0, g1, g2, g3v, g4⟩, hR⟩ := hG
  refine AC.of [some (.ref c)] rfl (by decide) (Nat.le_of_ble_eq_true rfl) rfl ?_
  refine AF.aload_n dX8_jetCount_0 rfl ?_
  refine AF.getfield dX8_jetCount_1 fl_X8_10 (by assumption) rfl ?_
  refine AF.getfield dX8_jetCount_4 fl_X8_64 (by assumption) rfl ?_
  refine AF.getfield dX8_jetCount_7 fl_X8_100 (by assumption) rfl ?_
  exact AF.ireturn dX8_jetCount_10 rfl (XQ.ok hC0 rfl)
set_option maxRecDepth 100000 in
set_option maxHeartbeats 1000000 in
theorem X8_capacity_ok (hC : CX G F c bv X) : AC G mX8_capacity 11 0 0 [.ref c] F (XQ G c bv X (rx [] 0 (.int (nI X.sg.cap))) F) := by
  have hC0 := hC
  obtain ⟨hn, hf, ⟨c0, -⟩, -, hS, -⟩ := hC
  have hS0 := hS
  obtain ⟨ef, es, ⟨s0, s9, s10⟩, hE, hJ, hG⟩ := hS
  have hJ0 := hJ
  obtain ⟨f, g, ⟨j0, j1, j2⟩, l, hfg⟩ := hJ
  have hG0 := hG
  obtain ⟨sc, dl, jt, op, ⟨g0, g1, g2, g3v, g4⟩, hR⟩ := hG
  refine AC.of [some (.ref c)] rfl (by decide) (Nat.le_of_ble_eq_true rfl) rfl ?_
  refine AF.aload_n dX8_capacity_0 rfl ?_
  refine AF.getfield dX8_capacity_1 fl_X8_10 (by assumption) rfl ?_
  refine AF.getfield dX8_capacity_4 fl_X8_64 (by assumption) rfl ?_
  refine AF.getfield dX8_capacity_7 fl_X8_171 (by assumption) rfl ?_
  exact AF.ireturn dX8_capacity_10 rfl (XQ.ok hC0 rfl)
set_option maxRecDepth 100000 in
set_option maxHeartbeats 1000000 in
theorem X8_wind_ok (hC : CX G F c bv X) : AC G mX8_wind 11 0 0 [.ref c] F (XQ G c bv X (rx [] 0 (.int X.sg.w)) F) := by
  have hC0 := hC
  obtain ⟨hn, hf, ⟨c0, -⟩, -, hS, -⟩ := hC
  have hS0 := hS
  obtain ⟨ef, es, ⟨s0, s9, s10⟩, hE, hJ, hG⟩ := hS
  have hJ0 := hJ
  obtain ⟨f, g, ⟨j0, j1, j2⟩, l, hfg⟩ := hJ
  have hG0 := hG
  obtain ⟨sc, dl, jt, op, ⟨g0, g1, g2, g3v, g4⟩, hR⟩ := hG
  refine AC.of [some (.ref c)] rfl (by decide) (Nat.le_of_ble_eq_true rfl) rfl ?_
  refine AF.aload_n dX8_wind_0 rfl ?_
  refine AF.getfield dX8_wind_1 fl_X8_10 (by assumption) rfl ?_
  refine AF.getfield dX8_wind_4 fl_X8_64 (by assumption) rfl ?_
  refine AF.getfield dX8_wind_7 fl_X8_174 (by assumption) rfl ?_
  exact AF.ireturn dX8_wind_10 rfl (XQ.ok hC0 rfl)
set_option maxRecDepth 100000 in
set_option maxHeartbeats 1000000 in
theorem X8_figureCount_ok (hC : CX G F c bv X) : AC G mX8_figureCount 11 0 0 [.ref c] F (XQ G c bv X (rx [] 0 (.int (nI X.sg.Fg.length))) F) := by
  have hC0 := hC
  obtain ⟨hn, hf, ⟨c0, -⟩, -, hS, -⟩ := hC
  have hS0 := hS
  obtain ⟨ef, es, ⟨s0, s9, s10⟩, hE, hJ, hG⟩ := hS
  have hJ0 := hJ
  obtain ⟨f, g, ⟨j0, j1, j2⟩, l, hfg⟩ := hJ
  have hG0 := hG
  obtain ⟨sc, dl, jt, op, ⟨g0, g1, g2, g3v, g4⟩, hR⟩ := hG
  refine AC.of [some (.ref c)] rfl (by decide) (Nat.le_of_ble_eq_true rfl) rfl ?_
  refine AF.aload_n dX8_figureCount_0 rfl ?_
  refine AF.getfield dX8_figureCount_1 fl_X8_10 (by assumption) rfl ?_
  refine AF.getfield dX8_figureCount_4 fl_X8_187 (by assumption) rfl ?_
  refine AF.getfield dX8_figureCount_7 fl_X8_219 (by assumption) rfl ?_
  exact AF.ireturn dX8_figureCount_10 rfl (XQ.ok hC0 rfl)
set_option maxRecDepth 100000 in
set_option maxHeartbeats 1000000 in
theorem X8_beat_ok (hC : CX G F c bv X) : AC G mX8_beat 11 0 0 [.ref c] F (XQ G c bv X (rx [] 0 (.int (nI X.sg.bt))) F) := by
  have hC0 := hC
  obtain ⟨hn, hf, ⟨c0, -⟩, -, hS, -⟩ := hC
  have hS0 := hS
  obtain ⟨ef, es, ⟨s0, s9, s10⟩, hE, hJ, hG⟩ := hS
  have hJ0 := hJ
  obtain ⟨f, g, ⟨j0, j1, j2⟩, l, hfg⟩ := hJ
  have hG0 := hG
  obtain ⟨sc, dl, jt, op, ⟨g0, g1, g2, g3v, g4⟩, hR⟩ := hG
  refine AC.of [some (.ref c)] rfl (by decide) (Nat.le_of_ble_eq_true rfl) rfl ?_
  refine AF.aload_n dX8_beat_0 rfl ?_
  refine AF.getfield dX8_beat_1 fl_X8_10 (by assumption) rfl ?_
  refine AF.getfield dX8_beat_4 fl_X8_259 (by assumption) rfl ?_
  exact AF.ireturn dX8_beat_7 rfl (XQ.ok hC0 rfl)
set_option maxRecDepth 100000 in
set_option maxHeartbeats 1000000 in
theorem X8_queueLength_ok (hC : CX G F c bv X) : AC G mX8_queueLength 11 0 0 [.ref c] F (XQ G c bv X (rx [] 0 (.int (nI X.sg.E.length))) F) := by
  have hC0 := hC
  obtain ⟨hn, hf, ⟨c0, -⟩, -, hS, -⟩ := hC
  have hS0 := hS
  obtain ⟨ef, es, ⟨s0, s9, s10⟩, hE, hJ, hG⟩ := hS
  have hJ0 := hJ
  obtain ⟨f, g, ⟨j0, j1, j2⟩, l, hfg⟩ := hJ
  have hG0 := hG
  obtain ⟨sc, dl, jt, op, ⟨g0, g1, g2, g3v, g4⟩, hR⟩ := hG
  refine AC.of [some (.ref c)] rfl (by decide) (Nat.le_of_ble_eq_true rfl) rfl ?_
  refine AF.aload_n dX8_queueLength_0 rfl ?_
  refine AF.getfield dX8_queueLength_1 fl_X8_10 (by assumption) rfl ?_
  refine AF.getfield dX8_queueLength_4 fl_X8_262 (by assumption) rfl ?_
  exact AF.ireturn dX8_queueLength_7 rfl (XQ.ok hC0 rfl)
set_option maxRecDepth 100000 in
set_option maxHeartbeats 1000000 in
theorem X8_pumped_ok (hC : CX G F c bv X) : AC G mX8_pumped 11 0 0 [.ref c] F (XQ G c bv X (rx [] 0 (.long (nL X.sg.pum))) F) := by
  have hC0 := hC
  obtain ⟨hn, hf, ⟨c0, -⟩, -, hS, -⟩ := hC
  have hS0 := hS
  obtain ⟨ef, es, ⟨s0, s9, s10⟩, hE, hJ, hG⟩ := hS
  have hJ0 := hJ
  obtain ⟨f, g, ⟨j0, j1, j2⟩, l, hfg⟩ := hJ
  have hG0 := hG
  obtain ⟨sc, dl, jt, op, ⟨g0, g1, g2, g3v, g4⟩, hR⟩ := hG
  refine AC.of [some (.ref c)] rfl (by decide) (Nat.le_of_ble_eq_true rfl) rfl ?_
  refine AF.aload_n dX8_pumped_0 rfl ?_
  refine AF.getfield dX8_pumped_1 fl_X8_10 (by assumption) rfl ?_
  refine AF.getfield dX8_pumped_4 fl_X8_180 (by assumption) rfl ?_
  exact AF.lreturn dX8_pumped_7 rfl (XQ.ok hC0 rfl)
set_option maxRecDepth 100000 in
set_option maxHeartbeats 1000000 in
theorem X8_shortage_ok (hC : CX G F c bv X) : AC G mX8_shortage 11 0 0 [.ref c] F (XQ G c bv X (rx [] 0 (.long (nL X.sg.sht))) F) := by
  have hC0 := hC
  obtain ⟨hn, hf, ⟨c0, -⟩, -, hS, -⟩ := hC
  have hS0 := hS
  obtain ⟨ef, es, ⟨s0, s9, s10⟩, hE, hJ, hG⟩ := hS
  have hJ0 := hJ
  obtain ⟨f, g, ⟨j0, j1, j2⟩, l, hfg⟩ := hJ
  have hG0 := hG
  obtain ⟨sc, dl, jt, op, ⟨g0, g1, g2, g3v, g4⟩, hR⟩ := hG
  refine AC.of [some (.ref c)] rfl (by decide) (Nat.le_of_ble_eq_true rfl) rfl ?_
  refine AF.aload_n dX8_shortage_0 rfl ?_
  refine AF.getfield dX8_shortage_1 fl_X8_10 (by assumption) rfl ?_
  refine AF.getfield dX8_shortage_4 fl_X8_184 (by assumption) rfl ?_
  exact AF.lreturn dX8_shortage_7 rfl (XQ.ok hC0 rfl)
set_option maxRecDepth 100000 in
set_option maxHeartbeats 1000000 in
theorem X8_undoCount_ok (hC : CX G F c bv X) : AC G mX8_undoCount 11 0 0 [.ref c] F (XQ G c bv X (rx [] 0 (.int (nI X.hs.length))) F) := by
  have hC0 := hC
  obtain ⟨hn, hf, ⟨c0, -⟩, -, hS, -⟩ := hC
  have hS0 := hS
  obtain ⟨ef, es, ⟨s0, s9, s10⟩, hE, hJ, hG⟩ := hS
  have hJ0 := hJ
  obtain ⟨f, g, ⟨j0, j1, j2⟩, l, hfg⟩ := hJ
  have hG0 := hG
  obtain ⟨sc, dl, jt, op, ⟨g0, g1, g2, g3v, g4⟩, hR⟩ := hG
  refine AC.of [some (.ref c)] rfl (by decide) (Nat.le_of_ble_eq_true rfl) rfl ?_
  refine AF.aload_n dX8_undoCount_0 rfl ?_
  refine AF.getfield dX8_undoCount_1 fl_X8_34 (by assumption) rfl ?_
  exact AF.ireturn dX8_undoCount_4 rfl (XQ.ok hC0 rfl)
set_option maxRecDepth 100000 in
set_option maxHeartbeats 1000000 in
theorem X8_wildCount_ok (hC : CX G F c bv X) (hI : SQ X.sg B) : AC G mX8_wildCount 11 0 0 [.ref c] F (XQ G c bv X (rx [] 0 (.int (nI (cntB (wld X.sg.J X.sg.cap X.sg.w) X.sg.J.length)))) F) := by
  have hC0 := hC
  obtain ⟨hn, hf, ⟨c0, -⟩, -, hS, -⟩ := hC
  have hS0 := hS
  obtain ⟨ef, es, ⟨s0, s9, s10⟩, hE, hJ, hG⟩ := hS
  have hJ0 := hJ
  obtain ⟨f, g, ⟨j0, j1, j2⟩, l, hfg⟩ := hJ
  have hG0 := hG
  obtain ⟨sc, dl, jt, op, ⟨g0, g1, g2, g3v, g4⟩, hR⟩ := hG
  refine AC.of [some (.ref c)] rfl (by decide) (Nat.le_of_ble_eq_true rfl) rfl ?_
  obtain ⟨⟨i1, i2, i3, i4, i5⟩, i6, i7, i8, i9, i10⟩ := id hI
  refine AF.aload_n dX8_wildCount_0 rfl ?_
  refine AF.getfield dX8_wildCount_1 fl_X8_10 (by assumption) rfl ?_
  refine AF.getfield dX8_wildCount_4 fl_X8_64 (by assumption) rfl ?_
  refine AF.v1 dX8_wildCount_7 kv_X8_124 ((X3_countWild_ok hJ0 i1 i2)) (by assumption) rfl rfl rfl (Nat.le_of_ble_eq_true rfl) (by decide) rfl ?_
  exact AF.ireturn dX8_wildCount_10 rfl (XQ.ok hC0 rfl)
set_option maxRecDepth 100000 in
set_option maxHeartbeats 1000000 in
theorem X8_crossings_ok (hC : CX G F c bv X) (hI : SQ X.sg B) : AC G mX8_crossings 11 0 0 [.ref c] F (XQ G c bv X (rx [] 0 (.int (nI (prs X.sg.J X.sg.cap X.sg.w)))) F) := by
  have hC0 := hC
  obtain ⟨hn, hf, ⟨c0, -⟩, -, hS, -⟩ := hC
  have hS0 := hS
  obtain ⟨ef, es, ⟨s0, s9, s10⟩, hE, hJ, hG⟩ := hS
  have hJ0 := hJ
  obtain ⟨f, g, ⟨j0, j1, j2⟩, l, hfg⟩ := hJ
  have hG0 := hG
  obtain ⟨sc, dl, jt, op, ⟨g0, g1, g2, g3v, g4⟩, hR⟩ := hG
  refine AC.of [some (.ref c)] rfl (by decide) (Nat.le_of_ble_eq_true rfl) rfl ?_
  obtain ⟨⟨i1, i2, i3, i4, i5⟩, i6, i7, i8, i9, i10⟩ := id hI
  refine AF.aload_n dX8_crossings_0 rfl ?_
  refine AF.getfield dX8_crossings_1 fl_X8_10 (by assumption) rfl ?_
  refine AF.getfield dX8_crossings_4 fl_X8_64 (by assumption) rfl ?_
  refine AF.v1 dX8_crossings_7 kv_X8_149 ((X3_countCrossingPairs_ok hJ0 i1 i2)) (by assumption) rfl rfl rfl (Nat.le_of_ble_eq_true rfl) (by decide) rfl ?_
  exact AF.ireturn dX8_crossings_10 rfl (XQ.ok hC0 rfl)
set_option maxRecDepth 100000 in
set_option maxHeartbeats 1000000 in
theorem X8_demand_ok (hC : CX G F c bv X) : AC G mX8_demand 11 0 0 [.ref c] F (XQ G c bv X (rx [] 0 (.int (nI (dem X.sg.J)))) F) := by
  have hC0 := hC
  obtain ⟨hn, hf, ⟨c0, -⟩, -, hS, -⟩ := hC
  have hS0 := hS
  obtain ⟨ef, es, ⟨s0, s9, s10⟩, hE, hJ, hG⟩ := hS
  have hJ0 := hJ
  obtain ⟨f, g, ⟨j0, j1, j2⟩, l, hfg⟩ := hJ
  have hG0 := hG
  obtain ⟨sc, dl, jt, op, ⟨g0, g1, g2, g3v, g4⟩, hR⟩ := hG
  refine AC.of [some (.ref c)] rfl (by decide) (Nat.le_of_ble_eq_true rfl) rfl ?_
  refine AF.aload_n dX8_demand_0 rfl ?_
  refine AF.getfield dX8_demand_1 fl_X8_10 (by assumption) rfl ?_
  refine AF.getfield dX8_demand_4 fl_X8_64 (by assumption) rfl ?_
  refine AF.v1 dX8_demand_7 kv_X8_110 ((X3_sum_ok hJ0)) (by assumption) rfl rfl rfl (Nat.le_of_ble_eq_true rfl) (by decide) rfl ?_
  exact AF.ireturn dX8_demand_10 rfl (XQ.ok hC0 rfl)
set_option maxRecDepth 100000 in
set_option maxHeartbeats 1000000 in
theorem X8_supply_ok (hC : CX G F c bv X) (hI : SQ X.sg B) : AC G mX8_supply 11 0 0 [.ref c] F (XQ G c bv X (rx [] 0 (.int (nI (sup X.sg.J X.sg.cap)))) F) := by
  have hC0 := hC
  obtain ⟨hn, hf, ⟨c0, -⟩, -, hS, -⟩ := hC
  have hS0 := hS
  obtain ⟨ef, es, ⟨s0, s9, s10⟩, hE, hJ, hG⟩ := hS
  have hJ0 := hJ
  obtain ⟨f, g, ⟨j0, j1, j2⟩, l, hfg⟩ := hJ
  have hG0 := hG
  obtain ⟨sc, dl, jt, op, ⟨g0, g1, g2, g3v, g4⟩, hR⟩ := hG
  refine AC.of [some (.ref c)] rfl (by decide) (Nat.le_of_ble_eq_true rfl) rfl ?_
  obtain ⟨⟨i1, i2, i3, i4, i5⟩, i6, i7, i8, i9, i10⟩ := id hI
  have hd := dem_le i1 i7
  refine AF.aload_n dX8_supply_0 rfl ?_
  refine AF.getfield dX8_supply_1 fl_X8_10 (by assumption) rfl ?_
  refine AF.getfield dX8_supply_4 fl_X8_64 (by assumption) rfl ?_
  refine AF.aload_n dX8_supply_7 rfl ?_
  refine AF.getfield dX8_supply_8 fl_X8_10 (by assumption) rfl ?_
  refine AF.getfield dX8_supply_11 fl_X8_64 (by assumption) rfl ?_
  refine AF.v1 dX8_supply_14 kv_X8_110 ((X3_sum_ok hJ0)) (by assumption) rfl rfl rfl (Nat.le_of_ble_eq_true rfl) (by decide) rfl ?_
  refine AF.v1 dX8_supply_17 kv_X8_177 ((X3_supplyFor_ok hJ0 (dem X.sg.J) (by omega) (by omega))) (by assumption) rfl rfl rfl (Nat.le_of_ble_eq_true rfl) (by decide) rfl ?_
  exact AF.ireturn dX8_supply_20 rfl (XQ.ok hC0 rfl)
set_option maxRecDepth 100000 in
set_option maxHeartbeats 1000000 in
theorem X8_beatsUntilEmpty_ok (hC : CX G F c bv X) (hI : SQ X.sg B) : AC G mX8_beatsUntilEmpty 11 0 0 [.ref c] F (XQ G c bv X (rx [] 0 (.int (nI (btq X.sg)))) F) := by
  have hC0 := hC
  obtain ⟨hn, hf, ⟨c0, -⟩, -, hS, -⟩ := hC
  have hS0 := hS
  obtain ⟨ef, es, ⟨s0, s9, s10⟩, hE, hJ, hG⟩ := hS
  have hJ0 := hJ
  obtain ⟨f, g, ⟨j0, j1, j2⟩, l, hfg⟩ := hJ
  have hG0 := hG
  obtain ⟨sc, dl, jt, op, ⟨g0, g1, g2, g3v, g4⟩, hR⟩ := hG
  refine AC.of [some (.ref c)] rfl (by decide) (Nat.le_of_ble_eq_true rfl) rfl ?_
  refine AF.aload_n dX8_beatsUntilEmpty_0 rfl ?_
  refine AF.getfield dX8_beatsUntilEmpty_1 fl_X8_10 (by assumption) rfl ?_
  refine AF.v1 dX8_beatsUntilEmpty_4 kv_X8_271 ((X7_beatsToEmptyQueue_ok hS0 hI.1)) (by assumption) rfl rfl rfl (Nat.le_of_ble_eq_true rfl) (by decide) rfl ?_
  exact AF.ireturn dX8_beatsUntilEmpty_7 rfl (XQ.ok hC0 rfl)
set_option maxRecDepth 100000 in
set_option maxHeartbeats 1000000 in
theorem X8_position_ok (hC : CX G F c bv X) (x : Int32) : AC G mX8_position 11 1 6 [.ref c, .int x] F (XQ G c bv X (rx [eIx] (if hasB X.sg.J.length x = true then 0 else 1) (.int (nI (jp X.sg.J (cl x))))) F) := by
  have hC0 := hC
  obtain ⟨hn, hf, ⟨c0, -⟩, -, hS, -⟩ := hC
  have hS0 := hS
  obtain ⟨ef, es, ⟨s0, s9, s10⟩, hE, hJ, hG⟩ := hS
  have hJ0 := hJ
  obtain ⟨f, g, ⟨j0, j1, j2⟩, l, hfg⟩ := hJ
  have hG0 := hG
  obtain ⟨sc, dl, jt, op, ⟨g0, g1, g2, g3v, g4⟩, hR⟩ := hG
  refine AC.of [some (.ref c), some (.int x)] rfl (by decide) (Nat.le_of_ble_eq_true rfl) rfl ?_
  refine AF.aload_n dX8_position_0 rfl ?_
  refine AF.iload_n dX8_position_1 rfl ?_
  refine AF.callV (bc := 0) (bs := 0) (mc' := 1) (ms' := 6) dX8_position_2 kv_X8_85 (X8_requireJet_ok hC0 x) c0 rfl rfl rfl (Nat.le_of_ble_eq_true rfl) (by decide) rfl (fun E F' q => ?_) (fun v F' q => ?_)
  · obtain ⟨h, rfl, n, hn, rfl⟩ := q.x
    exact XQ.x1 hC0 h hn
  · obtain ⟨h, rfl, rfl⟩ := q.n
    obtain ⟨j, hj, rfl⟩ := hasB_nI (by omega) h
    rw [show cl (nI j) = j from nI_clamp (by omega)]
    refine AF.aload_n dX8_position_5 rfl ?_
    refine AF.getfield dX8_position_6 fl_X8_10 (by assumption) rfl ?_
    refine AF.getfield dX8_position_9 fl_X8_64 (by assumption) rfl ?_
    refine AF.getfield dX8_position_12 fl_X8_103 (by assumption) rfl ?_
    refine AF.iload_n dX8_position_15 rfl ?_
    refine AF.iaload (j) dX8_position_16 (by assumption) (by first | rfl | exact nI_1 _ | (simp only [nI_add, pk_mul, nI_1]; exact congrArg nI (by omega)) | simp only [nI_add, pk_mul, nI_1]) (by omega) (by decide) ?_
    rw [show f j = _ from (hfg j hj).1]
    exact AF.ireturn dX8_position_17 rfl (XQ.ok hC0 (if_pos h))
set_option maxRecDepth 100000 in
set_option maxHeartbeats 1000000 in
theorem X8_opening_ok (hC : CX G F c bv X) (x : Int32) : AC G mX8_opening 11 1 6 [.ref c, .int x] F (XQ G c bv X (rx [eIx] (if hasB X.sg.J.length x = true then 0 else 1) (.int (nI (jo X.sg.J (cl x))))) F) := by
  have hC0 := hC
  obtain ⟨hn, hf, ⟨c0, -⟩, -, hS, -⟩ := hC
  have hS0 := hS
  obtain ⟨ef, es, ⟨s0, s9, s10⟩, hE, hJ, hG⟩ := hS
  have hJ0 := hJ
  obtain ⟨f, g, ⟨j0, j1, j2⟩, l, hfg⟩ := hJ
  have hG0 := hG
  obtain ⟨sc, dl, jt, op, ⟨g0, g1, g2, g3v, g4⟩, hR⟩ := hG
  refine AC.of [some (.ref c), some (.int x)] rfl (by decide) (Nat.le_of_ble_eq_true rfl) rfl ?_
  refine AF.aload_n dX8_opening_0 rfl ?_
  refine AF.iload_n dX8_opening_1 rfl ?_
  refine AF.callV (bc := 0) (bs := 0) (mc' := 1) (ms' := 6) dX8_opening_2 kv_X8_85 (X8_requireJet_ok hC0 x) c0 rfl rfl rfl (Nat.le_of_ble_eq_true rfl) (by decide) rfl (fun E F' q => ?_) (fun v F' q => ?_)
  · obtain ⟨h, rfl, n, hn, rfl⟩ := q.x
    exact XQ.x1 hC0 h hn
  · obtain ⟨h, rfl, rfl⟩ := q.n
    obtain ⟨j, hj, rfl⟩ := hasB_nI (by omega) h
    rw [show cl (nI j) = j from nI_clamp (by omega)]
    refine AF.aload_n dX8_opening_5 rfl ?_
    refine AF.getfield dX8_opening_6 fl_X8_10 (by assumption) rfl ?_
    refine AF.getfield dX8_opening_9 fl_X8_64 (by assumption) rfl ?_
    refine AF.getfield dX8_opening_12 fl_X8_107 (by assumption) rfl ?_
    refine AF.iload_n dX8_opening_15 rfl ?_
    refine AF.iaload (j) dX8_opening_16 (by assumption) (by first | rfl | exact nI_1 _ | (simp only [nI_add, pk_mul, nI_1]; exact congrArg nI (by omega)) | simp only [nI_add, pk_mul, nI_1]) (by omega) (by decide) ?_
    rw [show g j = _ from (hfg j hj).2]
    exact AF.ireturn dX8_opening_17 rfl (XQ.ok hC0 (if_pos h))
set_option maxRecDepth 100000 in
set_option maxHeartbeats 1000000 in
theorem X8_height_ok (hC : CX G F c bv X) (hI : SQ X.sg B) (x : Int32) : AC G mX8_height 11 1 6 [.ref c, .int x] F (XQ G c bv X (rx [eIx] (if hasB X.sg.J.length x = true then 0 else 1) (.int (nI (hgt X.sg.cap (dem X.sg.J) (jo X.sg.J (cl x)))))) F) := by
  have hC0 := hC
  obtain ⟨hn, hf, ⟨c0, -⟩, -, hS, -⟩ := hC
  have hS0 := hS
  obtain ⟨ef, es, ⟨s0, s9, s10⟩, hE, hJ, hG⟩ := hS
  have hJ0 := hJ
  obtain ⟨f, g, ⟨j0, j1, j2⟩, l, hfg⟩ := hJ
  have hG0 := hG
  obtain ⟨sc, dl, jt, op, ⟨g0, g1, g2, g3v, g4⟩, hR⟩ := hG
  refine AC.of [some (.ref c), some (.int x)] rfl (by decide) (Nat.le_of_ble_eq_true rfl) rfl ?_
  obtain ⟨⟨i1, i2, i3, i4, i5⟩, i6, i7, i8, i9, i10⟩ := id hI
  have hd := dem_le i1 i7
  refine AF.aload_n dX8_height_0 rfl ?_
  refine AF.iload_n dX8_height_1 rfl ?_
  refine AF.callV (bc := 0) (bs := 0) (mc' := 1) (ms' := 6) dX8_height_2 kv_X8_85 (X8_requireJet_ok hC0 x) c0 rfl rfl rfl (Nat.le_of_ble_eq_true rfl) (by decide) rfl (fun E F' q => ?_) (fun v F' q => ?_)
  · obtain ⟨h, rfl, n, hn, rfl⟩ := q.x
    exact XQ.x1 hC0 h hn
  · obtain ⟨h, rfl, rfl⟩ := q.n
    obtain ⟨j, hj, rfl⟩ := hasB_nI (by omega) h
    rw [show cl (nI j) = j from nI_clamp (by omega)]
    refine AF.aload_n dX8_height_5 rfl ?_
    refine AF.getfield dX8_height_6 fl_X8_10 (by assumption) rfl ?_
    refine AF.getfield dX8_height_9 fl_X8_64 (by assumption) rfl ?_
    refine AF.iload_n dX8_height_12 rfl ?_
    refine AF.aload_n dX8_height_13 rfl ?_
    refine AF.getfield dX8_height_14 fl_X8_10 (by assumption) rfl ?_
    refine AF.getfield dX8_height_17 fl_X8_64 (by assumption) rfl ?_
    refine AF.v1 dX8_height_20 kv_X8_110 ((X3_sum_ok hJ0)) (by assumption) rfl rfl rfl (Nat.le_of_ble_eq_true rfl) (by decide) rfl ?_
    refine AF.v1 dX8_height_23 kv_X8_114 ((X3_heightOf_ok hJ0 i1 i2 (dem X.sg.J) j hd hj)) (by assumption) rfl rfl rfl (Nat.le_of_ble_eq_true rfl) (by decide) rfl ?_
    exact AF.ireturn dX8_height_26 rfl (XQ.ok hC0 (if_pos h))
set_option maxRecDepth 100000 in
set_option maxHeartbeats 1000000 in
theorem X8_landing_ok (hC : CX G F c bv X) (hI : SQ X.sg B) (x : Int32) : AC G mX8_landing 11 1 6 [.ref c, .int x] F (XQ G c bv X (rx [eIx] (if hasB X.sg.J.length x = true then 0 else 1) (.int (lan X.sg.J X.sg.cap X.sg.w (dem X.sg.J) (cl x)))) F) := by
  have hC0 := hC
  obtain ⟨hn, hf, ⟨c0, -⟩, -, hS, -⟩ := hC
  have hS0 := hS
  obtain ⟨ef, es, ⟨s0, s9, s10⟩, hE, hJ, hG⟩ := hS
  have hJ0 := hJ
  obtain ⟨f, g, ⟨j0, j1, j2⟩, l, hfg⟩ := hJ
  have hG0 := hG
  obtain ⟨sc, dl, jt, op, ⟨g0, g1, g2, g3v, g4⟩, hR⟩ := hG
  refine AC.of [some (.ref c), some (.int x)] rfl (by decide) (Nat.le_of_ble_eq_true rfl) rfl ?_
  obtain ⟨⟨i1, i2, i3, i4, i5⟩, i6, i7, i8, i9, i10⟩ := id hI
  have hd := dem_le i1 i7
  refine AF.aload_n dX8_landing_0 rfl ?_
  refine AF.iload_n dX8_landing_1 rfl ?_
  refine AF.callV (bc := 0) (bs := 0) (mc' := 1) (ms' := 6) dX8_landing_2 kv_X8_85 (X8_requireJet_ok hC0 x) c0 rfl rfl rfl (Nat.le_of_ble_eq_true rfl) (by decide) rfl (fun E F' q => ?_) (fun v F' q => ?_)
  · obtain ⟨h, rfl, n, hn, rfl⟩ := q.x
    exact XQ.x1 hC0 h hn
  · obtain ⟨h, rfl, rfl⟩ := q.n
    obtain ⟨j, hj, rfl⟩ := hasB_nI (by omega) h
    rw [show cl (nI j) = j from nI_clamp (by omega)]
    refine AF.aload_n dX8_landing_5 rfl ?_
    refine AF.getfield dX8_landing_6 fl_X8_10 (by assumption) rfl ?_
    refine AF.getfield dX8_landing_9 fl_X8_64 (by assumption) rfl ?_
    refine AF.iload_n dX8_landing_12 rfl ?_
    refine AF.aload_n dX8_landing_13 rfl ?_
    refine AF.getfield dX8_landing_14 fl_X8_10 (by assumption) rfl ?_
    refine AF.getfield dX8_landing_17 fl_X8_64 (by assumption) rfl ?_
    refine AF.v1 dX8_landing_20 kv_X8_110 ((X3_sum_ok hJ0)) (by assumption) rfl rfl rfl (Nat.le_of_ble_eq_true rfl) (by decide) rfl ?_
    refine AF.v1 dX8_landing_23 kv_X8_117 ((X3_landingOf_ok hJ0 i1 i2 (dem X.sg.J) j hd hj)) (by assumption) rfl rfl rfl (Nat.le_of_ble_eq_true rfl) (by decide) rfl ?_
    exact AF.ireturn dX8_landing_26 rfl (XQ.ok hC0 (if_pos h))
set_option maxRecDepth 100000 in
set_option maxHeartbeats 1000000 in
theorem X8_isWild_ok (hC : CX G F c bv X) (hI : SQ X.sg B) (x : Int32) : AC G mX8_isWild 11 1 6 [.ref c, .int x] F (XQ G c bv X (rx [eIx] (if hasB X.sg.J.length x = true then 0 else 1) (.int (bI (wld X.sg.J X.sg.cap X.sg.w (cl x))))) F) := by
  have hC0 := hC
  obtain ⟨hn, hf, ⟨c0, -⟩, -, hS, -⟩ := hC
  have hS0 := hS
  obtain ⟨ef, es, ⟨s0, s9, s10⟩, hE, hJ, hG⟩ := hS
  have hJ0 := hJ
  obtain ⟨f, g, ⟨j0, j1, j2⟩, l, hfg⟩ := hJ
  have hG0 := hG
  obtain ⟨sc, dl, jt, op, ⟨g0, g1, g2, g3v, g4⟩, hR⟩ := hG
  refine AC.of [some (.ref c), some (.int x)] rfl (by decide) (Nat.le_of_ble_eq_true rfl) rfl ?_
  obtain ⟨⟨i1, i2, i3, i4, i5⟩, i6, i7, i8, i9, i10⟩ := id hI
  have hd := dem_le i1 i7
  refine AF.aload_n dX8_isWild_0 rfl ?_
  refine AF.iload_n dX8_isWild_1 rfl ?_
  refine AF.callV (bc := 0) (bs := 0) (mc' := 1) (ms' := 6) dX8_isWild_2 kv_X8_85 (X8_requireJet_ok hC0 x) c0 rfl rfl rfl (Nat.le_of_ble_eq_true rfl) (by decide) rfl (fun E F' q => ?_) (fun v F' q => ?_)
  · obtain ⟨h, rfl, n, hn, rfl⟩ := q.x
    exact XQ.x1 hC0 h hn
  · obtain ⟨h, rfl, rfl⟩ := q.n
    obtain ⟨j, hj, rfl⟩ := hasB_nI (by omega) h
    rw [show cl (nI j) = j from nI_clamp (by omega)]
    refine AF.aload_n dX8_isWild_5 rfl ?_
    refine AF.getfield dX8_isWild_6 fl_X8_10 (by assumption) rfl ?_
    refine AF.getfield dX8_isWild_9 fl_X8_64 (by assumption) rfl ?_
    refine AF.iload_n dX8_isWild_12 rfl ?_
    refine AF.aload_n dX8_isWild_13 rfl ?_
    refine AF.getfield dX8_isWild_14 fl_X8_10 (by assumption) rfl ?_
    refine AF.getfield dX8_isWild_17 fl_X8_64 (by assumption) rfl ?_
    refine AF.v1 dX8_isWild_20 kv_X8_110 ((X3_sum_ok hJ0)) (by assumption) rfl rfl rfl (Nat.le_of_ble_eq_true rfl) (by decide) rfl ?_
    refine AF.v1 dX8_isWild_23 kv_X8_117 ((X3_landingOf_ok hJ0 i1 i2 (dem X.sg.J) j hd hj)) (by assumption) rfl rfl rfl (Nat.le_of_ble_eq_true rfl) (by decide) rfl ?_
    refine AF.s1 dX8_isWild_26 kv_X8_120 ((X3_isOutside_ok (lan X.sg.J X.sg.cap X.sg.w (dem X.sg.J) j))) rfl rfl (Nat.le_of_ble_eq_true rfl) (by decide) rfl ?_
    exact AF.zreturn dX8_isWild_29 rfl (bI_nar _) (XQ.ok hC0 (if_pos h))
set_option maxRecDepth 100000 in
set_option maxHeartbeats 1000000 in
theorem X8_highestJet_ok (hC : CX G F c bv X) (hI : SQ X.sg B) : AC G mX8_highestJet 11 1 6 [.ref c] F (XQ G c bv X (rx [eNo] (if X.sg.J.length = 0 then 1 else 0) (.int (nI (hghst X.sg.J X.sg.cap)))) F) := by
  have hC0 := hC
  obtain ⟨hn, hf, ⟨c0, -⟩, -, hS, -⟩ := hC
  have hS0 := hS
  obtain ⟨ef, es, ⟨s0, s9, s10⟩, hE, hJ, hG⟩ := hS
  have hJ0 := hJ
  obtain ⟨f, g, ⟨j0, j1, j2⟩, l, hfg⟩ := hJ
  have hG0 := hG
  obtain ⟨sc, dl, jt, op, ⟨g0, g1, g2, g3v, g4⟩, hR⟩ := hG
  refine AC.of [some (.ref c)] rfl (by decide) (Nat.le_of_ble_eq_true rfl) rfl ?_
  obtain ⟨⟨i1, i2, i3, i4, i5⟩, i6, i7, i8, i9, i10⟩ := id hI
  refine AF.aload_n dX8_highestJet_0 rfl ?_
  refine AF.callV (bc := 0) (bs := 0) (mc' := 1) (ms' := 6) dX8_highestJet_1 kv_X8_127 (X8_requireAnyJet_ok hC0) c0 rfl rfl rfl (Nat.le_of_ble_eq_true rfl) (by decide) rfl (fun E F' q => ?_) (fun v F' q => ?_)
  · obtain ⟨h, rfl, n, hn, rfl⟩ := q.x
    exact XQ.x hC0 (by rw [if_pos (Decidable.not_not.mp h)]; decide) (by rw [if_pos (Decidable.not_not.mp h)]; rfl) hn
  · obtain ⟨h, rfl, rfl⟩ := q.n
    refine AF.aload_n dX8_highestJet_4 rfl ?_
    refine AF.getfield dX8_highestJet_5 fl_X8_10 (by assumption) rfl ?_
    refine AF.getfield dX8_highestJet_8 fl_X8_64 (by assumption) rfl ?_
    refine AF.v1 dX8_highestJet_11 kv_X8_130 ((X3_findHighest_ok hJ0 i1 i2)) (by assumption) rfl rfl rfl (Nat.le_of_ble_eq_true rfl) (by decide) rfl ?_
    exact AF.ireturn dX8_highestJet_14 rfl (XQ.ok hC0 (if_neg h))
set_option maxRecDepth 100000 in
set_option maxHeartbeats 1000000 in
theorem X8_nearestLanding_ok (hC : CX G F c bv X) (hI : SQ X.sg B) (x : Int32) : AC G mX8_nearestLanding 11 1 6 [.ref c, .int x] F (XQ G c bv X (rx [eNo] (if X.sg.J.length = 0 then 1 else 0) (.int (nI (nrst X.sg.J X.sg.cap X.sg.w x)))) F) := by
  have hC0 := hC
  obtain ⟨hn, hf, ⟨c0, -⟩, -, hS, -⟩ := hC
  have hS0 := hS
  obtain ⟨ef, es, ⟨s0, s9, s10⟩, hE, hJ, hG⟩ := hS
  have hJ0 := hJ
  obtain ⟨f, g, ⟨j0, j1, j2⟩, l, hfg⟩ := hJ
  have hG0 := hG
  obtain ⟨sc, dl, jt, op, ⟨g0, g1, g2, g3v, g4⟩, hR⟩ := hG
  refine AC.of [some (.ref c), some (.int x)] rfl (by decide) (Nat.le_of_ble_eq_true rfl) rfl ?_
  obtain ⟨⟨i1, i2, i3, i4, i5⟩, i6, i7, i8, i9, i10⟩ := id hI
  refine AF.aload_n dX8_nearestLanding_0 rfl ?_
  refine AF.callV (bc := 0) (bs := 0) (mc' := 1) (ms' := 6) dX8_nearestLanding_1 kv_X8_127 (X8_requireAnyJet_ok hC0) c0 rfl rfl rfl (Nat.le_of_ble_eq_true rfl) (by decide) rfl (fun E F' q => ?_) (fun v F' q => ?_)
  · obtain ⟨h, rfl, n, hn, rfl⟩ := q.x
    exact XQ.x hC0 (by rw [if_pos (Decidable.not_not.mp h)]; decide) (by rw [if_pos (Decidable.not_not.mp h)]; rfl) hn
  · obtain ⟨h, rfl, rfl⟩ := q.n
    refine AF.aload_n dX8_nearestLanding_4 rfl ?_
    refine AF.getfield dX8_nearestLanding_5 fl_X8_10 (by assumption) rfl ?_
    refine AF.getfield dX8_nearestLanding_8 fl_X8_64 (by assumption) rfl ?_
    refine AF.iload_n dX8_nearestLanding_11 rfl ?_
    refine AF.v1 dX8_nearestLanding_12 kv_X8_146 ((X3_findNearestLanding_ok hJ0 i1 i2 x)) (by assumption) rfl rfl rfl (Nat.le_of_ble_eq_true rfl) (by decide) rfl ?_
    exact AF.ireturn dX8_nearestLanding_15 rfl (XQ.ok hC0 (if_neg h))
set_option maxRecDepth 100000 in
set_option maxHeartbeats 1000000 in
theorem X8_stepCount_ok (hC : CX G F c bv X) (x : Int32) : AC G mX8_stepCount 11 1 6 [.ref c, .int x] F (XQ G c bv X (rx [eIx] (if hasB X.sg.Fg.length x = true then 0 else 1) (.int (nI (fg X.sg.Fg (cl x)).length))) F) := by
  have hC0 := hC
  obtain ⟨hn, hf, ⟨c0, -⟩, -, hS, -⟩ := hC
  have hS0 := hS
  obtain ⟨ef, es, ⟨s0, s9, s10⟩, hE, hJ, hG⟩ := hS
  have hJ0 := hJ
  obtain ⟨f, g, ⟨j0, j1, j2⟩, l, hfg⟩ := hJ
  have hG0 := hG
  obtain ⟨sc, dl, jt, op, ⟨g0, g1, g2, g3v, g4⟩, hR⟩ := hG
  refine AC.of [some (.ref c), some (.int x)] rfl (by decide) (Nat.le_of_ble_eq_true rfl) rfl ?_
  have l5 := hR.1
  refine AF.aload_n dX8_stepCount_0 rfl ?_
  refine AF.iload_n dX8_stepCount_1 rfl ?_
  refine AF.callV (bc := 0) (bs := 0) (mc' := 1) (ms' := 6) dX8_stepCount_2 kv_X8_220 (X8_requireFigure_ok hC0 x) c0 rfl rfl rfl (Nat.le_of_ble_eq_true rfl) (by decide) rfl (fun E F' q => ?_) (fun v F' q => ?_)
  · obtain ⟨h, rfl, n, hn, rfl⟩ := q.x
    exact XQ.x1 hC0 h hn
  · obtain ⟨h, rfl, rfl⟩ := q.n
    obtain ⟨j, hj, rfl⟩ := hasB_nI (by omega) h
    rw [show cl (nI j) = j from nI_clamp (by omega)]
    refine AF.aload_n dX8_stepCount_5 rfl ?_
    refine AF.getfield dX8_stepCount_6 fl_X8_10 (by assumption) rfl ?_
    refine AF.getfield dX8_stepCount_9 fl_X8_187 (by assumption) rfl ?_
    refine AF.getfield dX8_stepCount_12 fl_X8_223 (by assumption) rfl ?_
    refine AF.iload_n dX8_stepCount_15 rfl ?_
    refine AF.iaload (j) dX8_stepCount_16 (by assumption) (by first | rfl | exact nI_1 _ | (simp only [nI_add, pk_mul, nI_1]; exact congrArg nI (by omega)) | simp only [nI_add, pk_mul, nI_1]) (by omega) (by decide) ?_
    rw [show sc j = _ from (hR.2 j hj).2.1]
    exact AF.ireturn dX8_stepCount_17 rfl (XQ.ok hC0 (if_pos h))
set_option maxRecDepth 100000 in
set_option maxHeartbeats 1000000 in
theorem X8_figureLength_ok (hC : CX G F c bv X) (hI : SQ X.sg B) (x : Int32) : AC G mX8_figureLength 11 1 6 [.ref c, .int x] F (XQ G c bv X (rx [eIx] (if hasB X.sg.Fg.length x = true then 0 else 1) (.int (nI (fln (fg X.sg.Fg (cl x)))))) F) := by
  have hC0 := hC
  obtain ⟨hn, hf, ⟨c0, -⟩, -, hS, -⟩ := hC
  have hS0 := hS
  obtain ⟨ef, es, ⟨s0, s9, s10⟩, hE, hJ, hG⟩ := hS
  have hJ0 := hJ
  obtain ⟨f, g, ⟨j0, j1, j2⟩, l, hfg⟩ := hJ
  have hG0 := hG
  obtain ⟨sc, dl, jt, op, ⟨g0, g1, g2, g3v, g4⟩, hR⟩ := hG
  refine AC.of [some (.ref c), some (.int x)] rfl (by decide) (Nat.le_of_ble_eq_true rfl) rfl ?_
  have l5 := hR.1
  obtain ⟨⟨i1, i2, i3, i4, i5⟩, i6, i7, i8, i9, i10⟩ := id hI
  refine AF.aload_n dX8_figureLength_0 rfl ?_
  refine AF.iload_n dX8_figureLength_1 rfl ?_
  refine AF.callV (bc := 0) (bs := 0) (mc' := 1) (ms' := 6) dX8_figureLength_2 kv_X8_220 (X8_requireFigure_ok hC0 x) c0 rfl rfl rfl (Nat.le_of_ble_eq_true rfl) (by decide) rfl (fun E F' q => ?_) (fun v F' q => ?_)
  · obtain ⟨h, rfl, n, hn, rfl⟩ := q.x
    exact XQ.x1 hC0 h hn
  · obtain ⟨h, rfl, rfl⟩ := q.n
    obtain ⟨j, hj, rfl⟩ := hasB_nI (by omega) h
    rw [show cl (nI j) = j from nI_clamp (by omega)]
    refine AF.aload_n dX8_figureLength_5 rfl ?_
    refine AF.getfield dX8_figureLength_6 fl_X8_10 (by assumption) rfl ?_
    refine AF.getfield dX8_figureLength_9 fl_X8_187 (by assumption) rfl ?_
    refine AF.iload_n dX8_figureLength_12 rfl ?_
    refine AF.v1 dX8_figureLength_13 kv_X8_235 ((X2_lengthOf_ok hG0 i3 j hj)) (by assumption) rfl rfl rfl (Nat.le_of_ble_eq_true rfl) (by decide) rfl ?_
    exact AF.ireturn dX8_figureLength_16 rfl (XQ.ok hC0 (if_pos h))
set_option maxRecDepth 100000 in
set_option maxHeartbeats 1000000 in
theorem X8_figuresUsing_ok (hC : CX G F c bv X) (hI : SQ X.sg B) (x : Int32) : AC G mX8_figuresUsing 11 1 6 [.ref c, .int x] F (XQ G c bv X (rx [eIx] (if hasB X.sg.J.length x = true then 0 else 1) (.int (nI (cntB (fun i => fus (fg X.sg.Fg i) (cl x)) X.sg.Fg.length)))) F) := by
  have hC0 := hC
  obtain ⟨hn, hf, ⟨c0, -⟩, -, hS, -⟩ := hC
  have hS0 := hS
  obtain ⟨ef, es, ⟨s0, s9, s10⟩, hE, hJ, hG⟩ := hS
  have hJ0 := hJ
  obtain ⟨f, g, ⟨j0, j1, j2⟩, l, hfg⟩ := hJ
  have hG0 := hG
  obtain ⟨sc, dl, jt, op, ⟨g0, g1, g2, g3v, g4⟩, hR⟩ := hG
  refine AC.of [some (.ref c), some (.int x)] rfl (by decide) (Nat.le_of_ble_eq_true rfl) rfl ?_
  obtain ⟨⟨i1, i2, i3, i4, i5⟩, i6, i7, i8, i9, i10⟩ := id hI
  refine AF.aload_n dX8_figuresUsing_0 rfl ?_
  refine AF.iload_n dX8_figuresUsing_1 rfl ?_
  refine AF.callV (bc := 0) (bs := 0) (mc' := 1) (ms' := 6) dX8_figuresUsing_2 kv_X8_85 (X8_requireJet_ok hC0 x) c0 rfl rfl rfl (Nat.le_of_ble_eq_true rfl) (by decide) rfl (fun E F' q => ?_) (fun v F' q => ?_)
  · obtain ⟨h, rfl, n, hn, rfl⟩ := q.x
    exact XQ.x1 hC0 h hn
  · obtain ⟨h, rfl, rfl⟩ := q.n
    obtain ⟨j, hj, rfl⟩ := hasB_nI (by omega) h
    rw [show cl (nI j) = j from nI_clamp (by omega)]
    refine AF.aload_n dX8_figuresUsing_5 rfl ?_
    refine AF.getfield dX8_figuresUsing_6 fl_X8_10 (by assumption) rfl ?_
    refine AF.getfield dX8_figuresUsing_9 fl_X8_187 (by assumption) rfl ?_
    refine AF.iload_n dX8_figuresUsing_12 rfl ?_
    refine AF.v1 dX8_figuresUsing_13 kv_X8_238 ((X2_countUsing_ok hG0 i3 i7 j (by omega))) (by assumption) rfl rfl rfl (Nat.le_of_ble_eq_true rfl) (by decide) rfl ?_
    exact AF.ireturn dX8_figuresUsing_16 rfl (XQ.ok hC0 (if_pos h))
set_option maxRecDepth 100000 in
set_option maxHeartbeats 1000000 in
theorem X8_stepDelay_ok (hC : CX G F c bv X) (x : Int32) (y : Int32) : AC G mX8_stepDelay 11 1 6 [.ref c, .int x, .int y] F (XQ G c bv X (rx [eIx] (if hsB X.sg.Fg x y = true then 0 else 1) (.int (nI (g3 (fg X.sg.Fg (cl x)) (cl y)).1))) F) := by
  have hC0 := hC
  obtain ⟨hn, hf, ⟨c0, -⟩, -, hS, -⟩ := hC
  have hS0 := hS
  obtain ⟨ef, es, ⟨s0, s9, s10⟩, hE, hJ, hG⟩ := hS
  have hJ0 := hJ
  obtain ⟨f, g, ⟨j0, j1, j2⟩, l, hfg⟩ := hJ
  have hG0 := hG
  obtain ⟨sc, dl, jt, op, ⟨g0, g1, g2, g3v, g4⟩, hR⟩ := hG
  refine AC.of [some (.ref c), some (.int x), some (.int y)] rfl (by decide) (Nat.le_of_ble_eq_true rfl) rfl ?_
  have l5 := hR.1
  refine AF.aload_n dX8_stepDelay_0 rfl ?_
  refine AF.iload_n dX8_stepDelay_1 rfl ?_
  refine AF.iload_n dX8_stepDelay_2 rfl ?_
  refine AF.callV (bc := 0) (bs := 0) (mc' := 1) (ms' := 6) dX8_stepDelay_3 kv_X8_212 (X8_requireStep_ok hC0 x y) c0 rfl rfl rfl (Nat.le_of_ble_eq_true rfl) (by decide) rfl (fun E F' q => ?_) (fun v F' q => ?_)
  · obtain ⟨h, rfl, n, hn, rfl⟩ := q.x
    exact XQ.x1 hC0 h hn
  · obtain ⟨h, rfl, rfl⟩ := q.n
    have h9 := h
    unfold hsB at h9
    rw [Bool.and_eq_true] at h9
    obtain ⟨i, hi, rfl⟩ := hasB_nI (by omega) h9.1
    have e1 : cl (nI i) = i := nI_clamp (by omega)
    have h8 := h9.2
    rw [show (nI i).toNatClampNeg = i from e1] at h8
    have l8 := (hR.2 i hi).1
    obtain ⟨k, hk, rfl⟩ := hasB_nI (by omega) h8
    have e2 : cl (nI k) = k := nI_clamp (by omega)
    rw [e1, e2]
    refine AF.aload_n dX8_stepDelay_6 rfl ?_
    refine AF.getfield dX8_stepDelay_7 fl_X8_10 (by assumption) rfl ?_
    refine AF.getfield dX8_stepDelay_10 fl_X8_187 (by assumption) rfl ?_
    refine AF.getfield dX8_stepDelay_13 fl_X8_226 (by assumption) rfl ?_
    refine AF.iload_n dX8_stepDelay_16 rfl ?_
    refine AF.iload_n dX8_stepDelay_17 rfl ?_
    refine AF.s1 dX8_stepDelay_18 kv_X8_229 ((X8_slot_ok i k)) rfl rfl (Nat.le_of_ble_eq_true rfl) (by decide) rfl ?_
    refine AF.iaload (i * 8 + k) dX8_stepDelay_21 (by assumption) (by first | rfl | exact nI_1 _ | (simp only [nI_add, pk_mul, nI_1]; exact congrArg nI (by omega)) | simp only [nI_add, pk_mul, nI_1]) (by omega) (by decide) ?_
    rw [show dl (i * 8 + k) = _ from ((hR.2 i hi).2.2 k hk).1]
    exact AF.ireturn dX8_stepDelay_22 rfl (XQ.ok hC0 (if_pos h))
set_option maxRecDepth 100000 in
set_option maxHeartbeats 1000000 in
theorem X8_stepJet_ok (hC : CX G F c bv X) (x : Int32) (y : Int32) : AC G mX8_stepJet 11 1 6 [.ref c, .int x, .int y] F (XQ G c bv X (rx [eIx] (if hsB X.sg.Fg x y = true then 0 else 1) (.int (nI (g3 (fg X.sg.Fg (cl x)) (cl y)).2.1))) F) := by
  have hC0 := hC
  obtain ⟨hn, hf, ⟨c0, -⟩, -, hS, -⟩ := hC
  have hS0 := hS
  obtain ⟨ef, es, ⟨s0, s9, s10⟩, hE, hJ, hG⟩ := hS
  have hJ0 := hJ
  obtain ⟨f, g, ⟨j0, j1, j2⟩, l, hfg⟩ := hJ
  have hG0 := hG
  obtain ⟨sc, dl, jt, op, ⟨g0, g1, g2, g3v, g4⟩, hR⟩ := hG
  refine AC.of [some (.ref c), some (.int x), some (.int y)] rfl (by decide) (Nat.le_of_ble_eq_true rfl) rfl ?_
  have l5 := hR.1
  refine AF.aload_n dX8_stepJet_0 rfl ?_
  refine AF.iload_n dX8_stepJet_1 rfl ?_
  refine AF.iload_n dX8_stepJet_2 rfl ?_
  refine AF.callV (bc := 0) (bs := 0) (mc' := 1) (ms' := 6) dX8_stepJet_3 kv_X8_212 (X8_requireStep_ok hC0 x y) c0 rfl rfl rfl (Nat.le_of_ble_eq_true rfl) (by decide) rfl (fun E F' q => ?_) (fun v F' q => ?_)
  · obtain ⟨h, rfl, n, hn, rfl⟩ := q.x
    exact XQ.x1 hC0 h hn
  · obtain ⟨h, rfl, rfl⟩ := q.n
    have h9 := h
    unfold hsB at h9
    rw [Bool.and_eq_true] at h9
    obtain ⟨i, hi, rfl⟩ := hasB_nI (by omega) h9.1
    have e1 : cl (nI i) = i := nI_clamp (by omega)
    have h8 := h9.2
    rw [show (nI i).toNatClampNeg = i from e1] at h8
    have l8 := (hR.2 i hi).1
    obtain ⟨k, hk, rfl⟩ := hasB_nI (by omega) h8
    have e2 : cl (nI k) = k := nI_clamp (by omega)
    rw [e1, e2]
    refine AF.aload_n dX8_stepJet_6 rfl ?_
    refine AF.getfield dX8_stepJet_7 fl_X8_10 (by assumption) rfl ?_
    refine AF.getfield dX8_stepJet_10 fl_X8_187 (by assumption) rfl ?_
    refine AF.getfield dX8_stepJet_13 fl_X8_232 (by assumption) rfl ?_
    refine AF.iload_n dX8_stepJet_16 rfl ?_
    refine AF.iload_n dX8_stepJet_17 rfl ?_
    refine AF.s1 dX8_stepJet_18 kv_X8_229 ((X8_slot_ok i k)) rfl rfl (Nat.le_of_ble_eq_true rfl) (by decide) rfl ?_
    refine AF.iaload (i * 8 + k) dX8_stepJet_21 (by assumption) (by first | rfl | exact nI_1 _ | (simp only [nI_add, pk_mul, nI_1]; exact congrArg nI (by omega)) | simp only [nI_add, pk_mul, nI_1]) (by omega) (by decide) ?_
    rw [show jt (i * 8 + k) = _ from ((hR.2 i hi).2.2 k hk).2.1]
    exact AF.ireturn dX8_stepJet_22 rfl (XQ.ok hC0 (if_pos h))
set_option maxRecDepth 100000 in
set_option maxHeartbeats 1000000 in
theorem X8_stepOpening_ok (hC : CX G F c bv X) (x : Int32) (y : Int32) : AC G mX8_stepOpening 11 1 6 [.ref c, .int x, .int y] F (XQ G c bv X (rx [eIx] (if hsB X.sg.Fg x y = true then 0 else 1) (.int (nI (g3 (fg X.sg.Fg (cl x)) (cl y)).2.2))) F) := by
  have hC0 := hC
  obtain ⟨hn, hf, ⟨c0, -⟩, -, hS, -⟩ := hC
  have hS0 := hS
  obtain ⟨ef, es, ⟨s0, s9, s10⟩, hE, hJ, hG⟩ := hS
  have hJ0 := hJ
  obtain ⟨f, g, ⟨j0, j1, j2⟩, l, hfg⟩ := hJ
  have hG0 := hG
  obtain ⟨sc, dl, jt, op, ⟨g0, g1, g2, g3v, g4⟩, hR⟩ := hG
  refine AC.of [some (.ref c), some (.int x), some (.int y)] rfl (by decide) (Nat.le_of_ble_eq_true rfl) rfl ?_
  have l5 := hR.1
  refine AF.aload_n dX8_stepOpening_0 rfl ?_
  refine AF.iload_n dX8_stepOpening_1 rfl ?_
  refine AF.iload_n dX8_stepOpening_2 rfl ?_
  refine AF.callV (bc := 0) (bs := 0) (mc' := 1) (ms' := 6) dX8_stepOpening_3 kv_X8_212 (X8_requireStep_ok hC0 x y) c0 rfl rfl rfl (Nat.le_of_ble_eq_true rfl) (by decide) rfl (fun E F' q => ?_) (fun v F' q => ?_)
  · obtain ⟨h, rfl, n, hn, rfl⟩ := q.x
    exact XQ.x1 hC0 h hn
  · obtain ⟨h, rfl, rfl⟩ := q.n
    have h9 := h
    unfold hsB at h9
    rw [Bool.and_eq_true] at h9
    obtain ⟨i, hi, rfl⟩ := hasB_nI (by omega) h9.1
    have e1 : cl (nI i) = i := nI_clamp (by omega)
    have h8 := h9.2
    rw [show (nI i).toNatClampNeg = i from e1] at h8
    have l8 := (hR.2 i hi).1
    obtain ⟨k, hk, rfl⟩ := hasB_nI (by omega) h8
    have e2 : cl (nI k) = k := nI_clamp (by omega)
    rw [e1, e2]
    refine AF.aload_n dX8_stepOpening_6 rfl ?_
    refine AF.getfield dX8_stepOpening_7 fl_X8_10 (by assumption) rfl ?_
    refine AF.getfield dX8_stepOpening_10 fl_X8_187 (by assumption) rfl ?_
    refine AF.getfield dX8_stepOpening_13 fl_X8_234 (by assumption) rfl ?_
    refine AF.iload_n dX8_stepOpening_16 rfl ?_
    refine AF.iload_n dX8_stepOpening_17 rfl ?_
    refine AF.s1 dX8_stepOpening_18 kv_X8_229 ((X8_slot_ok i k)) rfl rfl (Nat.le_of_ble_eq_true rfl) (by decide) rfl ?_
    refine AF.iaload (i * 8 + k) dX8_stepOpening_21 (by assumption) (by first | rfl | exact nI_1 _ | (simp only [nI_add, pk_mul, nI_1]; exact congrArg nI (by omega)) | simp only [nI_add, pk_mul, nI_1]) (by omega) (by decide) ?_
    rw [show op (i * 8 + k) = _ from ((hR.2 i hi).2.2 k hk).2.2]
    exact AF.ireturn dX8_stepOpening_22 rfl (XQ.ok hC0 (if_pos h))
set_option maxRecDepth 100000 in
set_option maxHeartbeats 1000000 in
theorem X8_entryFigure_ok (hC : CX G F c bv X) (x : Int32) : AC G mX8_entryFigure 11 1 6 [.ref c, .int x] F (XQ G c bv X (rx [eIx] (if hasB X.sg.E.length x = true then 0 else 1) (.int (nI (en X.sg.E (cl x)).1))) F) := by
  have hC0 := hC
  obtain ⟨hn, hf, ⟨c0, -⟩, -, hS, -⟩ := hC
  have hS0 := hS
  obtain ⟨ef, es, ⟨s0, s9, s10⟩, hE, hJ, hG⟩ := hS
  have hJ0 := hJ
  obtain ⟨f, g, ⟨j0, j1, j2⟩, l, hfg⟩ := hJ
  have hG0 := hG
  obtain ⟨sc, dl, jt, op, ⟨g0, g1, g2, g3v, g4⟩, hR⟩ := hG
  refine AC.of [some (.ref c), some (.int x)] rfl (by decide) (Nat.le_of_ble_eq_true rfl) rfl ?_
  have l6 := hE.1
  refine AF.aload_n dX8_entryFigure_0 rfl ?_
  refine AF.iload_n dX8_entryFigure_1 rfl ?_
  refine AF.callV (bc := 0) (bs := 0) (mc' := 1) (ms' := 6) dX8_entryFigure_2 kv_X8_247 (X8_requireEntry_ok hC0 x) c0 rfl rfl rfl (Nat.le_of_ble_eq_true rfl) (by decide) rfl (fun E F' q => ?_) (fun v F' q => ?_)
  · obtain ⟨h, rfl, n, hn, rfl⟩ := q.x
    exact XQ.x1 hC0 h hn
  · obtain ⟨h, rfl, rfl⟩ := q.n
    obtain ⟨j, hj, rfl⟩ := hasB_nI (by omega) h
    rw [show cl (nI j) = j from nI_clamp (by omega)]
    refine AF.aload_n dX8_entryFigure_5 rfl ?_
    refine AF.getfield dX8_entryFigure_6 fl_X8_10 (by assumption) rfl ?_
    refine AF.getfield dX8_entryFigure_9 fl_X8_265 (by assumption) rfl ?_
    refine AF.iload_n dX8_entryFigure_12 rfl ?_
    refine AF.iaload (j) dX8_entryFigure_13 (by assumption) (by first | rfl | exact nI_1 _ | (simp only [nI_add, pk_mul, nI_1]; exact congrArg nI (by omega)) | simp only [nI_add, pk_mul, nI_1]) (by omega) (by decide) ?_
    rw [show ef j = _ from (hE.2 j hj).1]
    exact AF.ireturn dX8_entryFigure_14 rfl (XQ.ok hC0 (if_pos h))
set_option maxRecDepth 100000 in
set_option maxHeartbeats 1000000 in
theorem X8_entryStart_ok (hC : CX G F c bv X) (x : Int32) : AC G mX8_entryStart 11 1 6 [.ref c, .int x] F (XQ G c bv X (rx [eIx] (if hasB X.sg.E.length x = true then 0 else 1) (.int (nI (en X.sg.E (cl x)).2))) F) := by
  have hC0 := hC
  obtain ⟨hn, hf, ⟨c0, -⟩, -, hS, -⟩ := hC
  have hS0 := hS
  obtain ⟨ef, es, ⟨s0, s9, s10⟩, hE, hJ, hG⟩ := hS
  have hJ0 := hJ
  obtain ⟨f, g, ⟨j0, j1, j2⟩, l, hfg⟩ := hJ
  have hG0 := hG
  obtain ⟨sc, dl, jt, op, ⟨g0, g1, g2, g3v, g4⟩, hR⟩ := hG
  refine AC.of [some (.ref c), some (.int x)] rfl (by decide) (Nat.le_of_ble_eq_true rfl) rfl ?_
  have l6 := hE.1
  refine AF.aload_n dX8_entryStart_0 rfl ?_
  refine AF.iload_n dX8_entryStart_1 rfl ?_
  refine AF.callV (bc := 0) (bs := 0) (mc' := 1) (ms' := 6) dX8_entryStart_2 kv_X8_247 (X8_requireEntry_ok hC0 x) c0 rfl rfl rfl (Nat.le_of_ble_eq_true rfl) (by decide) rfl (fun E F' q => ?_) (fun v F' q => ?_)
  · obtain ⟨h, rfl, n, hn, rfl⟩ := q.x
    exact XQ.x1 hC0 h hn
  · obtain ⟨h, rfl, rfl⟩ := q.n
    obtain ⟨j, hj, rfl⟩ := hasB_nI (by omega) h
    rw [show cl (nI j) = j from nI_clamp (by omega)]
    refine AF.aload_n dX8_entryStart_5 rfl ?_
    refine AF.getfield dX8_entryStart_6 fl_X8_10 (by assumption) rfl ?_
    refine AF.getfield dX8_entryStart_9 fl_X8_268 (by assumption) rfl ?_
    refine AF.iload_n dX8_entryStart_12 rfl ?_
    refine AF.iaload (j) dX8_entryStart_13 (by assumption) (by first | rfl | exact nI_1 _ | (simp only [nI_add, pk_mul, nI_1]; exact congrArg nI (by omega)) | simp only [nI_add, pk_mul, nI_1]) (by omega) (by decide) ?_
    rw [show es j = _ from (hE.2 j hj).2]
    exact AF.ireturn dX8_entryStart_14 rfl (XQ.ok hC0 (if_pos h))
end

