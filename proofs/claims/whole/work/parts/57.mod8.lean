/-! The reference as the runs see it: its questions. -/
theorem toL {c : Nat} (h : c < 2 ^ 31) : (nI c).toInt64 = nL c := by
  apply Int64.toInt_inj.mp
  rw [Int32.toInt_toInt64, nI_toInt h, nL, Int64.toInt_ofNat_of_lt (by omega)]
def MQl (G : GA) (m : Nat) (X : XS) (an : Int64) (F0 : AH) : AR → AH → Prop := fun r F' => r = .inl (some (.long an)) ∧ MX G F' m X (nI 0) ∧ Fr m (m + 9) F0 F'
section
variable {G : GA} {F : AH} {m : Nat} {g f : Nat → Int32} {A : Nat → Nat → Int32} {σ : Sg} {B : Nat} {X : XS} {th : Int32}
set_option maxRecDepth 100000 in
theorem X9_thrown_ok (hM : MX G F m X th) : AC G mX9_thrown 0 0 0 [.ref m] F (AV (some (.int th)) F) := by
  obtain ⟨g, f, A, hM, hS, ht, hr⟩ := hM
  obtain ⟨h0, h1, hR⟩ := hM
  refine AC.of [some (.ref m)] rfl (by decide) (Nat.le_of_ble_eq_true rfl) rfl ?_
  refine AF.aload_n dX9_thrown_0 rfl ?_
  refine AF.getfield dX9_thrown_1 fl_X9_41 (by assumption) rfl ?_
  rw [ht]
  exact AF.ireturn dX9_thrown_4 rfl ⟨rfl, rfl⟩
set_option maxRecDepth 100000 in
theorem X9_jetCount_ok (hM : MX G F m X th) (ha : gN G ≤ m) : AC G mX9_jetCount 0 0 0 [.ref m] F (MQq G m X 0 (nI X.sg.J.length) F) := by
  obtain ⟨g, f, A, hM, hS, -, hr⟩ := hM
  have hM0 := hM
  obtain ⟨h0, h1, hR⟩ := hM
  refine AC.of [some (.ref m)] rfl (by decide) (Nat.le_of_ble_eq_true rfl) rfl ?_
  have hfr : Fr m (m + 9) F F := Fr.rf
  refine AF.aload_n dX9_jetCount_0 rfl ?_
  refine AF.iconst (nI 0) dX9_jetCount_1 (by decide) ?_
  refine AF.putfieldF dX9_jetCount_2 fp_X9_41 h0 (by omega) (Nat.le_of_ble_eq_true rfl) rfl rfl (Or.inr fq_6_0) ?_
  intro F e9 h9 o9
  replace h1 := (o9 (m + 1) (by omega)).trans h1
  replace hR := hR.kept (fun q h1 h2 => o9 q (by omega))
  replace h0 := h9
  replace hfr := hfr.step e9 (by omega) (by omega) o9
  clear e9 h9 o9
  refine AF.aload_n dX9_jetCount_5 rfl ?_
  refine AF.getfield dX9_jetCount_6 fl_X9_7 (by assumption) rfl ?_
  refine AF.iconst (nI 0) dX9_jetCount_9 (by decide) ?_
  refine AF.iaload (_) dX9_jetCount_10 (by assumption) rfl (by omega) (by decide) ?_
  rw [hS.1.1]
  have hM2 : MA G F m (upd g 0 (nI 0)) f A := ⟨h0, h1, hR⟩
  exact AF.ireturn dX9_jetCount_11 rfl ⟨rfl, ⟨_, f, A, hM2, hS, rfl, hr⟩, hfr⟩
set_option maxRecDepth 100000 in
theorem X9_capacity_ok (hM : MX G F m X th) (ha : gN G ≤ m) : AC G mX9_capacity 0 0 0 [.ref m] F (MQq G m X 0 (nI X.sg.cap) F) := by
  obtain ⟨g, f, A, hM, hS, -, hr⟩ := hM
  have hM0 := hM
  obtain ⟨h0, h1, hR⟩ := hM
  refine AC.of [some (.ref m)] rfl (by decide) (Nat.le_of_ble_eq_true rfl) rfl ?_
  have hfr : Fr m (m + 9) F F := Fr.rf
  refine AF.aload_n dX9_capacity_0 rfl ?_
  refine AF.iconst (nI 0) dX9_capacity_1 (by decide) ?_
  refine AF.putfieldF dX9_capacity_2 fp_X9_41 h0 (by omega) (Nat.le_of_ble_eq_true rfl) rfl rfl (Or.inr fq_6_0) ?_
  intro F e9 h9 o9
  replace h1 := (o9 (m + 1) (by omega)).trans h1
  replace hR := hR.kept (fun q h1 h2 => o9 q (by omega))
  replace h0 := h9
  replace hfr := hfr.step e9 (by omega) (by omega) o9
  clear e9 h9 o9
  refine AF.aload_n dX9_capacity_5 rfl ?_
  refine AF.getfield dX9_capacity_6 fl_X9_7 (by assumption) rfl ?_
  refine AF.iconst (nI 3) dX9_capacity_9 (by decide) ?_
  refine AF.iaload (_) dX9_capacity_10 (by assumption) rfl (by omega) (by decide) ?_
  rw [hS.1.2.2.2.1]
  have hM2 : MA G F m (upd g 0 (nI 0)) f A := ⟨h0, h1, hR⟩
  exact AF.ireturn dX9_capacity_11 rfl ⟨rfl, ⟨_, f, A, hM2, hS, rfl, hr⟩, hfr⟩
set_option maxRecDepth 100000 in
theorem X9_wind_ok (hM : MX G F m X th) (ha : gN G ≤ m) : AC G mX9_wind 0 0 0 [.ref m] F (MQq G m X 0 (X.sg.w) F) := by
  obtain ⟨g, f, A, hM, hS, -, hr⟩ := hM
  have hM0 := hM
  obtain ⟨h0, h1, hR⟩ := hM
  refine AC.of [some (.ref m)] rfl (by decide) (Nat.le_of_ble_eq_true rfl) rfl ?_
  have hfr : Fr m (m + 9) F F := Fr.rf
  refine AF.aload_n dX9_wind_0 rfl ?_
  refine AF.iconst (nI 0) dX9_wind_1 (by decide) ?_
  refine AF.putfieldF dX9_wind_2 fp_X9_41 h0 (by omega) (Nat.le_of_ble_eq_true rfl) rfl rfl (Or.inr fq_6_0) ?_
  intro F e9 h9 o9
  replace h1 := (o9 (m + 1) (by omega)).trans h1
  replace hR := hR.kept (fun q h1 h2 => o9 q (by omega))
  replace h0 := h9
  replace hfr := hfr.step e9 (by omega) (by omega) o9
  clear e9 h9 o9
  refine AF.aload_n dX9_wind_5 rfl ?_
  refine AF.getfield dX9_wind_6 fl_X9_7 (by assumption) rfl ?_
  refine AF.iconst (nI 4) dX9_wind_9 (by decide) ?_
  refine AF.iaload (_) dX9_wind_10 (by assumption) rfl (by omega) (by decide) ?_
  rw [hS.1.2.2.2.2.1]
  have hM2 : MA G F m (upd g 0 (nI 0)) f A := ⟨h0, h1, hR⟩
  exact AF.ireturn dX9_wind_11 rfl ⟨rfl, ⟨_, f, A, hM2, hS, rfl, hr⟩, hfr⟩
set_option maxRecDepth 100000 in
theorem X9_figureCount_ok (hM : MX G F m X th) (ha : gN G ≤ m) : AC G mX9_figureCount 0 0 0 [.ref m] F (MQq G m X 0 (nI X.sg.Fg.length) F) := by
  obtain ⟨g, f, A, hM, hS, -, hr⟩ := hM
  have hM0 := hM
  obtain ⟨h0, h1, hR⟩ := hM
  refine AC.of [some (.ref m)] rfl (by decide) (Nat.le_of_ble_eq_true rfl) rfl ?_
  have hfr : Fr m (m + 9) F F := Fr.rf
  refine AF.aload_n dX9_figureCount_0 rfl ?_
  refine AF.iconst (nI 0) dX9_figureCount_1 (by decide) ?_
  refine AF.putfieldF dX9_figureCount_2 fp_X9_41 h0 (by omega) (Nat.le_of_ble_eq_true rfl) rfl rfl (Or.inr fq_6_0) ?_
  intro F e9 h9 o9
  replace h1 := (o9 (m + 1) (by omega)).trans h1
  replace hR := hR.kept (fun q h1 h2 => o9 q (by omega))
  replace h0 := h9
  replace hfr := hfr.step e9 (by omega) (by omega) o9
  clear e9 h9 o9
  refine AF.aload_n dX9_figureCount_5 rfl ?_
  refine AF.getfield dX9_figureCount_6 fl_X9_7 (by assumption) rfl ?_
  refine AF.iconst (nI 1) dX9_figureCount_9 (by decide) ?_
  refine AF.iaload (_) dX9_figureCount_10 (by assumption) rfl (by omega) (by decide) ?_
  rw [hS.1.2.1]
  have hM2 : MA G F m (upd g 0 (nI 0)) f A := ⟨h0, h1, hR⟩
  exact AF.ireturn dX9_figureCount_11 rfl ⟨rfl, ⟨_, f, A, hM2, hS, rfl, hr⟩, hfr⟩
set_option maxRecDepth 100000 in
theorem X9_beat_ok (hM : MX G F m X th) (ha : gN G ≤ m) : AC G mX9_beat 0 0 0 [.ref m] F (MQq G m X 0 (nI X.sg.bt) F) := by
  obtain ⟨g, f, A, hM, hS, -, hr⟩ := hM
  have hM0 := hM
  obtain ⟨h0, h1, hR⟩ := hM
  refine AC.of [some (.ref m)] rfl (by decide) (Nat.le_of_ble_eq_true rfl) rfl ?_
  have hfr : Fr m (m + 9) F F := Fr.rf
  refine AF.aload_n dX9_beat_0 rfl ?_
  refine AF.iconst (nI 0) dX9_beat_1 (by decide) ?_
  refine AF.putfieldF dX9_beat_2 fp_X9_41 h0 (by omega) (Nat.le_of_ble_eq_true rfl) rfl rfl (Or.inr fq_6_0) ?_
  intro F e9 h9 o9
  replace h1 := (o9 (m + 1) (by omega)).trans h1
  replace hR := hR.kept (fun q h1 h2 => o9 q (by omega))
  replace h0 := h9
  replace hfr := hfr.step e9 (by omega) (by omega) o9
  clear e9 h9 o9
  refine AF.aload_n dX9_beat_5 rfl ?_
  refine AF.getfield dX9_beat_6 fl_X9_7 (by assumption) rfl ?_
  refine AF.iconst (nI 5) dX9_beat_9 (by decide) ?_
  refine AF.iaload (_) dX9_beat_10 (by assumption) rfl (by omega) (by decide) ?_
  rw [hS.1.2.2.2.2.2.1]
  have hM2 : MA G F m (upd g 0 (nI 0)) f A := ⟨h0, h1, hR⟩
  exact AF.ireturn dX9_beat_11 rfl ⟨rfl, ⟨_, f, A, hM2, hS, rfl, hr⟩, hfr⟩
set_option maxRecDepth 100000 in
theorem X9_queueLength_ok (hM : MX G F m X th) (ha : gN G ≤ m) : AC G mX9_queueLength 0 0 0 [.ref m] F (MQq G m X 0 (nI X.sg.E.length) F) := by
  obtain ⟨g, f, A, hM, hS, -, hr⟩ := hM
  have hM0 := hM
  obtain ⟨h0, h1, hR⟩ := hM
  refine AC.of [some (.ref m)] rfl (by decide) (Nat.le_of_ble_eq_true rfl) rfl ?_
  have hfr : Fr m (m + 9) F F := Fr.rf
  refine AF.aload_n dX9_queueLength_0 rfl ?_
  refine AF.iconst (nI 0) dX9_queueLength_1 (by decide) ?_
  refine AF.putfieldF dX9_queueLength_2 fp_X9_41 h0 (by omega) (Nat.le_of_ble_eq_true rfl) rfl rfl (Or.inr fq_6_0) ?_
  intro F e9 h9 o9
  replace h1 := (o9 (m + 1) (by omega)).trans h1
  replace hR := hR.kept (fun q h1 h2 => o9 q (by omega))
  replace h0 := h9
  replace hfr := hfr.step e9 (by omega) (by omega) o9
  clear e9 h9 o9
  refine AF.aload_n dX9_queueLength_5 rfl ?_
  refine AF.getfield dX9_queueLength_6 fl_X9_7 (by assumption) rfl ?_
  refine AF.iconst (nI 2) dX9_queueLength_9 (by decide) ?_
  refine AF.iaload (_) dX9_queueLength_10 (by assumption) rfl (by omega) (by decide) ?_
  rw [hS.1.2.2.1]
  have hM2 : MA G F m (upd g 0 (nI 0)) f A := ⟨h0, h1, hR⟩
  exact AF.ireturn dX9_queueLength_11 rfl ⟨rfl, ⟨_, f, A, hM2, hS, rfl, hr⟩, hfr⟩
set_option maxRecDepth 100000 in
theorem X9_pumped_ok (hM : MX G F m X th) (ha : gN G ≤ m) (hI : SQ X.sg B) : AC G mX9_pumped 0 0 0 [.ref m] F (MQl G m X (nL X.sg.pum) F) := by
  obtain ⟨g, f, A, hM, hS, -, hr⟩ := hM
  have hM0 := hM
  obtain ⟨h0, h1, hR⟩ := hM
  refine AC.of [some (.ref m)] rfl (by decide) (Nat.le_of_ble_eq_true rfl) rfl ?_
  have hfr : Fr m (m + 9) F F := Fr.rf
  refine AF.aload_n dX9_pumped_0 rfl ?_
  refine AF.iconst (nI 0) dX9_pumped_1 (by decide) ?_
  refine AF.putfieldF dX9_pumped_2 fp_X9_41 h0 (by omega) (Nat.le_of_ble_eq_true rfl) rfl rfl (Or.inr fq_6_0) ?_
  intro F e9 h9 o9
  replace h1 := (o9 (m + 1) (by omega)).trans h1
  replace hR := hR.kept (fun q h1 h2 => o9 q (by omega))
  replace h0 := h9
  replace hfr := hfr.step e9 (by omega) (by omega) o9
  clear e9 h9 o9
  refine AF.aload_n dX9_pumped_5 rfl ?_
  refine AF.getfield dX9_pumped_6 fl_X9_7 (by assumption) rfl ?_
  refine AF.bipush (nI 6) dX9_pumped_9 (by decide) ?_
  refine AF.iaload (_) dX9_pumped_11 (by assumption) rfl (by omega) (by decide) ?_
  rw [hS.1.2.2.2.2.2.2.1]
  refine AF.i2l dX9_pumped_12 ?_
  rw [toL (by have := hI.1.2.2.2.2.2.1; have := hI.1.2.2.2.2.2.2.2; omega)]
  have hM2 : MA G F m (upd g 0 (nI 0)) f A := ⟨h0, h1, hR⟩
  exact AF.lreturn dX9_pumped_13 rfl ⟨rfl, ⟨_, f, A, hM2, hS, rfl, hr⟩, hfr⟩
set_option maxRecDepth 100000 in
theorem X9_shortage_ok (hM : MX G F m X th) (ha : gN G ≤ m) (hI : SQ X.sg B) : AC G mX9_shortage 0 0 0 [.ref m] F (MQl G m X (nL X.sg.sht) F) := by
  obtain ⟨g, f, A, hM, hS, -, hr⟩ := hM
  have hM0 := hM
  obtain ⟨h0, h1, hR⟩ := hM
  refine AC.of [some (.ref m)] rfl (by decide) (Nat.le_of_ble_eq_true rfl) rfl ?_
  have hfr : Fr m (m + 9) F F := Fr.rf
  refine AF.aload_n dX9_shortage_0 rfl ?_
  refine AF.iconst (nI 0) dX9_shortage_1 (by decide) ?_
  refine AF.putfieldF dX9_shortage_2 fp_X9_41 h0 (by omega) (Nat.le_of_ble_eq_true rfl) rfl rfl (Or.inr fq_6_0) ?_
  intro F e9 h9 o9
  replace h1 := (o9 (m + 1) (by omega)).trans h1
  replace hR := hR.kept (fun q h1 h2 => o9 q (by omega))
  replace h0 := h9
  replace hfr := hfr.step e9 (by omega) (by omega) o9
  clear e9 h9 o9
  refine AF.aload_n dX9_shortage_5 rfl ?_
  refine AF.getfield dX9_shortage_6 fl_X9_7 (by assumption) rfl ?_
  refine AF.bipush (nI 7) dX9_shortage_9 (by decide) ?_
  refine AF.iaload (_) dX9_shortage_11 (by assumption) rfl (by omega) (by decide) ?_
  rw [hS.1.2.2.2.2.2.2.2]
  refine AF.i2l dX9_shortage_12 ?_
  rw [toL (by have := hI.1.2.2.2.2.2.2.1; have := hI.1.2.2.2.2.2.2.2; omega)]
  have hM2 : MA G F m (upd g 0 (nI 0)) f A := ⟨h0, h1, hR⟩
  exact AF.lreturn dX9_shortage_13 rfl ⟨rfl, ⟨_, f, A, hM2, hS, rfl, hr⟩, hfr⟩
set_option maxRecDepth 100000 in
theorem X9_demand_ok (hM : MX G F m X th) (ha : gN G ≤ m) : AC G mX9_demand 3 0 0 [.ref m] F (MQq G m X 0 (nI (dem X.sg.J)) F) := by
  obtain ⟨g, f, A, hM, hS, -, hr⟩ := hM
  have hM0 := hM
  obtain ⟨h0, h1, hR⟩ := hM
  refine AC.of [some (.ref m)] rfl (by decide) (Nat.le_of_ble_eq_true rfl) rfl ?_
  have hfr : Fr m (m + 9) F F := Fr.rf
  refine AF.aload_n dX9_demand_0 rfl ?_
  refine AF.iconst (nI 0) dX9_demand_1 (by decide) ?_
  refine AF.putfieldF dX9_demand_2 fp_X9_41 h0 (by omega) (Nat.le_of_ble_eq_true rfl) rfl rfl (Or.inr fq_6_0) ?_
  intro F e9 h9 o9
  replace h1 := (o9 (m + 1) (by omega)).trans h1
  replace hR := hR.kept (fun q h1 h2 => o9 q (by omega))
  replace h0 := h9
  replace hfr := hfr.step e9 (by omega) (by omega) o9
  clear e9 h9 o9
  refine AF.aload_n dX9_demand_5 rfl ?_
  have hM2 : MA G F m (upd g 0 (nI 0)) f A := ⟨h0, h1, hR⟩
  refine AF.v1 dX9_demand_6 kv_X9_64 ((X9_asked_ok hM2 hS)) (by assumption) rfl rfl rfl (Nat.le_of_ble_eq_true rfl) (by decide) rfl ?_
  exact AF.ireturn dX9_demand_9 rfl ⟨rfl, ⟨_, f, A, hM2, hS, rfl, hr⟩, hfr⟩
set_option maxRecDepth 100000 in
theorem X9_supply_ok (hM : MX G F m X th) (ha : gN G ≤ m) (hI : SQ X.sg B) : AC G mX9_supply 3 0 0 [.ref m] F (MQq G m X 0 (nI (sup X.sg.J X.sg.cap)) F) := by
  obtain ⟨g, f, A, hM, hS, -, hr⟩ := hM
  have hM0 := hM
  obtain ⟨h0, h1, hR⟩ := hM
  refine AC.of [some (.ref m)] rfl (by decide) (Nat.le_of_ble_eq_true rfl) rfl ?_
  have hfr : Fr m (m + 9) F F := Fr.rf
  refine AF.aload_n dX9_supply_0 rfl ?_
  refine AF.iconst (nI 0) dX9_supply_1 (by decide) ?_
  refine AF.putfieldF dX9_supply_2 fp_X9_41 h0 (by omega) (Nat.le_of_ble_eq_true rfl) rfl rfl (Or.inr fq_6_0) ?_
  intro F e9 h9 o9
  replace h1 := (o9 (m + 1) (by omega)).trans h1
  replace hR := hR.kept (fun q h1 h2 => o9 q (by omega))
  replace h0 := h9
  replace hfr := hfr.step e9 (by omega) (by omega) o9
  clear e9 h9 o9
  refine AF.aload_n dX9_supply_5 rfl ?_
  have hM2 : MA G F m (upd g 0 (nI 0)) f A := ⟨h0, h1, hR⟩
  refine AF.v1 dX9_supply_6 kv_X9_118 ((X9_given_ok hM2 hS hI.1)) (by assumption) rfl rfl rfl (Nat.le_of_ble_eq_true rfl) (by decide) rfl ?_
  exact AF.ireturn dX9_supply_9 rfl ⟨rfl, ⟨_, f, A, hM2, hS, rfl, hr⟩, hfr⟩
set_option maxRecDepth 100000 in
theorem X9_undoCount_ok (hM : MX G F m X th) (ha : gN G ≤ m) : AC G mX9_undoCount 0 0 0 [.ref m] F (MQq G m X 0 (nI X.hs.length) F) := by
  obtain ⟨g, f, A, hM, hS, -, hr⟩ := hM
  have hM0 := hM
  obtain ⟨h0, h1, hR⟩ := hM
  refine AC.of [some (.ref m)] rfl (by decide) (Nat.le_of_ble_eq_true rfl) rfl ?_
  have hfr : Fr m (m + 9) F F := Fr.rf
  refine AF.aload_n dX9_undoCount_0 rfl ?_
  refine AF.iconst (nI 0) dX9_undoCount_1 (by decide) ?_
  refine AF.putfieldF dX9_undoCount_2 fp_X9_41 h0 (by omega) (Nat.le_of_ble_eq_true rfl) rfl rfl (Or.inr fq_6_0) ?_
  intro F e9 h9 o9
  replace h1 := (o9 (m + 1) (by omega)).trans h1
  replace hR := hR.kept (fun q h1 h2 => o9 q (by omega))
  replace h0 := h9
  replace hfr := hfr.step e9 (by omega) (by omega) o9
  clear e9 h9 o9
  refine AF.aload_n dX9_undoCount_5 rfl ?_
  refine AF.getfield dX9_undoCount_6 fl_X9_44 (by assumption) rfl ?_
  rw [show g 6 = nI X.hs.length from hr.1.1]
  have hM2 : MA G F m (upd g 0 (nI 0)) f A := ⟨h0, h1, hR⟩
  exact AF.ireturn dX9_undoCount_9 rfl ⟨rfl, ⟨_, f, A, hM2, hS, rfl, hr⟩, hfr⟩
set_option maxRecDepth 100000 in
theorem X9_isConsistent_ok (hM : MX G F m X th) (ha : gN G ≤ m) : AC G mX9_isConsistent 0 0 0 [.ref m] F (MQq G m X 0 (bI true) F) := by
  obtain ⟨g, f, A, hM, hS, -, hr⟩ := hM
  have hM0 := hM
  obtain ⟨h0, h1, hR⟩ := hM
  refine AC.of [some (.ref m)] rfl (by decide) (Nat.le_of_ble_eq_true rfl) rfl ?_
  have hfr : Fr m (m + 9) F F := Fr.rf
  refine AF.aload_n dX9_isConsistent_0 rfl ?_
  refine AF.iconst (nI 0) dX9_isConsistent_1 (by decide) ?_
  refine AF.putfieldF dX9_isConsistent_2 fp_X9_41 h0 (by omega) (Nat.le_of_ble_eq_true rfl) rfl rfl (Or.inr fq_6_0) ?_
  intro F e9 h9 o9
  replace h1 := (o9 (m + 1) (by omega)).trans h1
  replace hR := hR.kept (fun q h1 h2 => o9 q (by omega))
  replace h0 := h9
  replace hfr := hfr.step e9 (by omega) (by omega) o9
  clear e9 h9 o9
  refine AF.iconst (nI 1) dX9_isConsistent_5 (by decide) ?_
  have hM2 : MA G F m (upd g 0 (nI 0)) f A := ⟨h0, h1, hR⟩
  exact AF.zreturn dX9_isConsistent_6 rfl rfl ⟨rfl, ⟨_, f, A, hM2, hS, rfl, hr⟩, hfr⟩
set_option maxRecDepth 100000 in
theorem X9_errorPosition_ok (hM : MX G F m X th) (ha : gN G ≤ m) : AC G mX9_errorPosition 2 0 0 [.ref m] F (MQq G m X (if X.er = -1 then 1 else 0) (X.er) F) := by
  obtain ⟨g, f, A, hM, hS, -, hr⟩ := hM
  have hM0 := hM
  obtain ⟨h0, h1, hR⟩ := hM
  refine AC.of [some (.ref m)] rfl (by decide) (Nat.le_of_ble_eq_true rfl) rfl ?_
  have hfr : Fr m (m + 9) F F := Fr.rf
  refine AF.aload_n dX9_errorPosition_0 rfl ?_
  refine AF.iconst (nI 0) dX9_errorPosition_1 (by decide) ?_
  refine AF.putfieldF dX9_errorPosition_2 fp_X9_41 h0 (by omega) (Nat.le_of_ble_eq_true rfl) rfl rfl (Or.inr fq_6_0) ?_
  intro F e9 h9 o9
  replace h1 := (o9 (m + 1) (by omega)).trans h1
  replace hR := hR.kept (fun q h1 h2 => o9 q (by omega))
  replace h0 := h9
  replace hfr := hfr.step e9 (by omega) (by omega) o9
  clear e9 h9 o9
  refine AF.aload_n dX9_errorPosition_5 rfl ?_
  refine AF.getfield dX9_errorPosition_6 fl_X9_34 (by assumption) rfl ?_
  rw [show g 13 = X.er from hr.2.2.2.2.1]
  refine AF.iconst (-1) dX9_errorPosition_9 (by decide) ?_
  have hM2 : MA G F m (upd g 0 (nI 0)) f A := ⟨h0, h1, hR⟩
  refine AF.icmp_ne 21 dX9_errorPosition_10 (by decide) (fun hc => ?_) (fun hc => ?_)
  · rw [if_neg hc]
    refine AF.aload_n dX9_errorPosition_21 rfl ?_
    refine AF.getfield dX9_errorPosition_22 fl_X9_34 (by assumption) rfl ?_
    rw [show g 13 = X.er from hr.2.2.2.2.1]
    exact AF.ireturn dX9_errorPosition_25 rfl ⟨rfl, ⟨_, f, A, hM2, hS, rfl, hr⟩, hfr⟩
  · rw [if_pos hc]
    refine AF.aload_n dX9_errorPosition_13 rfl ?_
    refine AF.iconst (nI 1) dX9_errorPosition_14 (by decide) ?_
    refine AF.vw dX9_errorPosition_15 kv_X9_54 (X9_fails_ok hM2 ha (nI 1)) (by assumption) rfl rfl rfl (Nat.le_of_ble_eq_true rfl) (by decide) rfl (fun E F9 q => nomatch q.1) (fun v F q => ?_)
    obtain ⟨q, hM3, q3⟩ := q
    cases q
    refine AF.goto 25 dX9_errorPosition_18 (by decide) ?_
    exact AF.ireturn dX9_errorPosition_25 rfl ⟨rfl, ⟨_, f, A, hM3, hS, rfl, hr⟩, hfr.trans q3 (Nat.le_refl _) (Nat.le_refl _)⟩
set_option maxRecDepth 100000 in
theorem X9_failedCommand_ok (hM : MX G F m X th) (ha : gN G ≤ m) : AC G mX9_failedCommand 2 0 0 [.ref m] F (MQq G m X (if X.fa = -1 then 1 else 0) (X.fa) F) := by
  obtain ⟨g, f, A, hM, hS, -, hr⟩ := hM
  have hM0 := hM
  obtain ⟨h0, h1, hR⟩ := hM
  refine AC.of [some (.ref m)] rfl (by decide) (Nat.le_of_ble_eq_true rfl) rfl ?_
  have hfr : Fr m (m + 9) F F := Fr.rf
  refine AF.aload_n dX9_failedCommand_0 rfl ?_
  refine AF.iconst (nI 0) dX9_failedCommand_1 (by decide) ?_
  refine AF.putfieldF dX9_failedCommand_2 fp_X9_41 h0 (by omega) (Nat.le_of_ble_eq_true rfl) rfl rfl (Or.inr fq_6_0) ?_
  intro F e9 h9 o9
  replace h1 := (o9 (m + 1) (by omega)).trans h1
  replace hR := hR.kept (fun q h1 h2 => o9 q (by omega))
  replace h0 := h9
  replace hfr := hfr.step e9 (by omega) (by omega) o9
  clear e9 h9 o9
  refine AF.aload_n dX9_failedCommand_5 rfl ?_
  refine AF.getfield dX9_failedCommand_6 fl_X9_38 (by assumption) rfl ?_
  rw [show g 14 = X.fa from hr.2.2.2.2.2]
  refine AF.iconst (-1) dX9_failedCommand_9 (by decide) ?_
  have hM2 : MA G F m (upd g 0 (nI 0)) f A := ⟨h0, h1, hR⟩
  refine AF.icmp_ne 21 dX9_failedCommand_10 (by decide) (fun hc => ?_) (fun hc => ?_)
  · rw [if_neg hc]
    refine AF.aload_n dX9_failedCommand_21 rfl ?_
    refine AF.getfield dX9_failedCommand_22 fl_X9_38 (by assumption) rfl ?_
    rw [show g 14 = X.fa from hr.2.2.2.2.2]
    exact AF.ireturn dX9_failedCommand_25 rfl ⟨rfl, ⟨_, f, A, hM2, hS, rfl, hr⟩, hfr⟩
  · rw [if_pos hc]
    refine AF.aload_n dX9_failedCommand_13 rfl ?_
    refine AF.iconst (nI 1) dX9_failedCommand_14 (by decide) ?_
    refine AF.vw dX9_failedCommand_15 kv_X9_54 (X9_fails_ok hM2 ha (nI 1)) (by assumption) rfl rfl rfl (Nat.le_of_ble_eq_true rfl) (by decide) rfl (fun E F9 q => nomatch q.1) (fun v F q => ?_)
    obtain ⟨q, hM3, q3⟩ := q
    cases q
    refine AF.goto 25 dX9_failedCommand_18 (by decide) ?_
    exact AF.ireturn dX9_failedCommand_25 rfl ⟨rfl, ⟨_, f, A, hM3, hS, rfl, hr⟩, hfr.trans q3 (Nat.le_refl _) (Nat.le_refl _)⟩
set_option maxRecDepth 100000 in
theorem X9_isAsked_ok (hM : MA G F m g f A) (ha : gN G ≤ m) (hS : SR σ f) (x : Int32) : AC G mX9_isAsked 2 0 0 [.ref m, .int x] F (MW G m (upd g 0 (nI (if hasB σ.J.length x = true then 0 else 1))) f A (some (.int (bI (hasB σ.J.length x)))) F) := by
  have hT := X9_isJet_ok hM hS x
  obtain ⟨h0, h1, hR⟩ := hM
  refine AC.of [some (.ref m), some (.int x)] rfl (by decide) (Nat.le_of_ble_eq_true rfl) rfl ?_
  have hfr : Fr m (m + 9) F F := Fr.rf
  refine AF.aload_n dX9_isAsked_0 rfl ?_
  refine AF.aload_n dX9_isAsked_1 rfl ?_
  refine AF.iload_n dX9_isAsked_2 rfl ?_
  refine AF.v1 dX9_isAsked_3 kv_X9_90 (hT) (by assumption) rfl rfl rfl (Nat.le_of_ble_eq_true rfl) (by decide) rfl ?_
  refine AF.if_eq 13 dX9_isAsked_6 (by decide) (fun c1 => ?_) (fun c1 => ?_)
  · have c1 := bI_z c1
    rw [c1]
    refine AF.iconst (nI 1) dX9_isAsked_13 (by decide) ?_
    refine AF.putfieldF dX9_isAsked_14 fp_X9_41 h0 (by omega) (Nat.le_of_ble_eq_true rfl) rfl rfl (Or.inr fq_6_0) ?_
    intro F e9 h9 o9
    replace h1 := (o9 (m + 1) (by omega)).trans h1
    replace hR := hR.kept (fun q h1 h2 => o9 q (by omega))
    replace h0 := h9
    replace hfr := hfr.step e9 (by omega) (by omega) o9
    clear e9 h9 o9
    refine AF.aload_n dX9_isAsked_17 rfl ?_
    refine AF.getfield dX9_isAsked_18 fl_X9_41 (by assumption) rfl ?_
    refine AF.if_ne 28 dX9_isAsked_21 (by decide) (fun c2 => ?_) (fun c2 => ?_)
    · refine AF.iconst (nI 0) dX9_isAsked_28 (by decide) ?_
      exact AF.zreturn dX9_isAsked_29 rfl rfl ⟨rfl, ⟨h0, h1, hR⟩, hfr⟩
    · exact absurd (c2 : nI 1 = 0) (by decide)
  · have c1 := bI_n c1
    rw [c1]
    refine AF.iconst (nI 0) dX9_isAsked_9 (by decide) ?_
    refine AF.goto 14 dX9_isAsked_10 (by decide) ?_
    refine AF.putfieldF dX9_isAsked_14 fp_X9_41 h0 (by omega) (Nat.le_of_ble_eq_true rfl) rfl rfl (Or.inr fq_6_0) ?_
    intro F e9 h9 o9
    replace h1 := (o9 (m + 1) (by omega)).trans h1
    replace hR := hR.kept (fun q h1 h2 => o9 q (by omega))
    replace h0 := h9
    replace hfr := hfr.step e9 (by omega) (by omega) o9
    clear e9 h9 o9
    refine AF.aload_n dX9_isAsked_17 rfl ?_
    refine AF.getfield dX9_isAsked_18 fl_X9_41 (by assumption) rfl ?_
    refine AF.if_ne 28 dX9_isAsked_21 (by decide) (fun c2 => ?_) (fun c2 => ?_)
    · exact absurd rfl c2
    · refine AF.iconst (nI 1) dX9_isAsked_24 (by decide) ?_
      refine AF.goto 29 dX9_isAsked_25 (by decide) ?_
      exact AF.zreturn dX9_isAsked_29 rfl rfl ⟨rfl, ⟨h0, h1, hR⟩, hfr⟩
set_option maxRecDepth 100000 in
theorem X9_position_ok (hM : MX G F m X th) (ha : gN G ≤ m) (x : Int32) : AC G mX9_position 3 0 0 [.ref m, .int x] F (MQq G m X (if hasB X.sg.J.length x = true then 0 else 1) (nI (jp X.sg.J (cl x))) F) := by
  obtain ⟨g, f, A, hM, hS, -, hr⟩ := hM
  have hM0 := hM
  obtain ⟨h0, h1, hR⟩ := hM
  refine AC.of [some (.ref m), some (.int x)] rfl (by decide) (Nat.le_of_ble_eq_true rfl) rfl ?_
  have hfr : Fr m (m + 9) F F := Fr.rf
  have hn := hS.2.1.1
  refine AF.aload_n dX9_position_0 rfl ?_
  refine AF.iload_n dX9_position_1 rfl ?_
  refine AF.vw dX9_position_2 kv_X9_140 (X9_isAsked_ok hM0 ha hS x) (by assumption) rfl rfl rfl (Nat.le_of_ble_eq_true rfl) (by decide) rfl (fun E F9 q => nomatch q.1) (fun v F q => ?_)
  obtain ⟨q, hM2, q2⟩ := q
  cases q
  obtain ⟨h0, h1, hR⟩ := id hM2
  refine AF.if_eq 16 dX9_position_5 (by decide) (fun c1 => ?_) (fun c1 => ?_)
  · have c1 := bI_z c1
    rw [c1] at hM2 ⊢
    refine AF.iconst (0) dX9_position_16 (by decide) ?_
    exact AF.ireturn dX9_position_17 rfl ⟨rfl, ⟨_, f, A, hM2, hS, rfl, hr⟩, hfr.trans q2 (Nat.le_refl _) (Nat.le_refl _)⟩
  · have c1 := bI_n c1
    rw [c1] at hM2 ⊢
    obtain ⟨j, hj, rfl⟩ := hasB_nI (by omega) c1
    rw [cl_nI (by omega)]
    refine AF.aload_n dX9_position_8 rfl ?_
    refine AF.iload_n dX9_position_9 rfl ?_
    refine AF.v1 dX9_position_10 kv_X9_68 ((X9_place_ok hM2 j (by omega))) (by assumption) rfl rfl rfl (Nat.le_of_ble_eq_true rfl) (by decide) rfl ?_
    rw [(hS.2.1.2 j hj).1]
    refine AF.goto 17 dX9_position_13 (by decide) ?_
    exact AF.ireturn dX9_position_17 rfl ⟨rfl, ⟨_, f, A, hM2, hS, rfl, hr⟩, hfr.trans q2 (Nat.le_refl _) (Nat.le_refl _)⟩
set_option maxRecDepth 100000 in
theorem X9_opening_ok (hM : MX G F m X th) (ha : gN G ≤ m) (x : Int32) : AC G mX9_opening 3 0 0 [.ref m, .int x] F (MQq G m X (if hasB X.sg.J.length x = true then 0 else 1) (nI (jo X.sg.J (cl x))) F) := by
  obtain ⟨g, f, A, hM, hS, -, hr⟩ := hM
  have hM0 := hM
  obtain ⟨h0, h1, hR⟩ := hM
  refine AC.of [some (.ref m), some (.int x)] rfl (by decide) (Nat.le_of_ble_eq_true rfl) rfl ?_
  have hfr : Fr m (m + 9) F F := Fr.rf
  have hn := hS.2.1.1
  refine AF.aload_n dX9_opening_0 rfl ?_
  refine AF.iload_n dX9_opening_1 rfl ?_
  refine AF.vw dX9_opening_2 kv_X9_140 (X9_isAsked_ok hM0 ha hS x) (by assumption) rfl rfl rfl (Nat.le_of_ble_eq_true rfl) (by decide) rfl (fun E F9 q => nomatch q.1) (fun v F q => ?_)
  obtain ⟨q, hM2, q2⟩ := q
  cases q
  obtain ⟨h0, h1, hR⟩ := id hM2
  refine AF.if_eq 16 dX9_opening_5 (by decide) (fun c1 => ?_) (fun c1 => ?_)
  · have c1 := bI_z c1
    rw [c1] at hM2 ⊢
    refine AF.iconst (0) dX9_opening_16 (by decide) ?_
    exact AF.ireturn dX9_opening_17 rfl ⟨rfl, ⟨_, f, A, hM2, hS, rfl, hr⟩, hfr.trans q2 (Nat.le_refl _) (Nat.le_refl _)⟩
  · have c1 := bI_n c1
    rw [c1] at hM2 ⊢
    obtain ⟨j, hj, rfl⟩ := hasB_nI (by omega) c1
    rw [cl_nI (by omega)]
    refine AF.aload_n dX9_opening_8 rfl ?_
    refine AF.iload_n dX9_opening_9 rfl ?_
    refine AF.v1 dX9_opening_10 kv_X9_61 ((X9_valve_ok hM2 j (by omega))) (by assumption) rfl rfl rfl (Nat.le_of_ble_eq_true rfl) (by decide) rfl ?_
    rw [(hS.2.1.2 j hj).2]
    refine AF.goto 17 dX9_opening_13 (by decide) ?_
    exact AF.ireturn dX9_opening_17 rfl ⟨rfl, ⟨_, f, A, hM2, hS, rfl, hr⟩, hfr.trans q2 (Nat.le_refl _) (Nat.le_refl _)⟩
set_option maxRecDepth 100000 in
theorem X9_height_ok (hM : MX G F m X th) (ha : gN G ≤ m) (hI : SQ X.sg B) (x : Int32) : AC G mX9_height 4 0 0 [.ref m, .int x] F (MQq G m X (if hasB X.sg.J.length x = true then 0 else 1) (nI (hgt X.sg.cap (dem X.sg.J) (jo X.sg.J (cl x)))) F) := by
  obtain ⟨g, f, A, hM, hS, -, hr⟩ := hM
  have hM0 := hM
  obtain ⟨h0, h1, hR⟩ := hM
  refine AC.of [some (.ref m), some (.int x)] rfl (by decide) (Nat.le_of_ble_eq_true rfl) rfl ?_
  have hfr : Fr m (m + 9) F F := Fr.rf
  have hn := hS.2.1.1
  refine AF.aload_n dX9_height_0 rfl ?_
  refine AF.iload_n dX9_height_1 rfl ?_
  refine AF.vw dX9_height_2 kv_X9_140 (X9_isAsked_ok hM0 ha hS x) (by assumption) rfl rfl rfl (Nat.le_of_ble_eq_true rfl) (by decide) rfl (fun E F9 q => nomatch q.1) (fun v F q => ?_)
  obtain ⟨q, hM2, q2⟩ := q
  cases q
  obtain ⟨h0, h1, hR⟩ := id hM2
  refine AF.if_eq 16 dX9_height_5 (by decide) (fun c1 => ?_) (fun c1 => ?_)
  · have c1 := bI_z c1
    rw [c1] at hM2 ⊢
    refine AF.iconst (0) dX9_height_16 (by decide) ?_
    exact AF.ireturn dX9_height_17 rfl ⟨rfl, ⟨_, f, A, hM2, hS, rfl, hr⟩, hfr.trans q2 (Nat.le_refl _) (Nat.le_refl _)⟩
  · have c1 := bI_n c1
    rw [c1] at hM2 ⊢
    obtain ⟨j, hj, rfl⟩ := hasB_nI (by omega) c1
    rw [cl_nI (by omega)]
    refine AF.aload_n dX9_height_8 rfl ?_
    refine AF.iload_n dX9_height_9 rfl ?_
    refine AF.v1 dX9_height_10 kv_X9_71 ((X9_high_ok hM2 hS hI.1 j hj)) (by assumption) rfl rfl rfl (Nat.le_of_ble_eq_true rfl) (by decide) rfl ?_
    refine AF.goto 17 dX9_height_13 (by decide) ?_
    exact AF.ireturn dX9_height_17 rfl ⟨rfl, ⟨_, f, A, hM2, hS, rfl, hr⟩, hfr.trans q2 (Nat.le_refl _) (Nat.le_refl _)⟩
set_option maxRecDepth 100000 in
theorem X9_landing_ok (hM : MX G F m X th) (ha : gN G ≤ m) (hI : SQ X.sg B) (x : Int32) : AC G mX9_landing 5 0 0 [.ref m, .int x] F (MQq G m X (if hasB X.sg.J.length x = true then 0 else 1) (lan X.sg.J X.sg.cap X.sg.w (dem X.sg.J) (cl x)) F) := by
  obtain ⟨g, f, A, hM, hS, -, hr⟩ := hM
  have hM0 := hM
  obtain ⟨h0, h1, hR⟩ := hM
  refine AC.of [some (.ref m), some (.int x)] rfl (by decide) (Nat.le_of_ble_eq_true rfl) rfl ?_
  have hfr : Fr m (m + 9) F F := Fr.rf
  have hn := hS.2.1.1
  refine AF.aload_n dX9_landing_0 rfl ?_
  refine AF.iload_n dX9_landing_1 rfl ?_
  refine AF.vw dX9_landing_2 kv_X9_140 (X9_isAsked_ok hM0 ha hS x) (by assumption) rfl rfl rfl (Nat.le_of_ble_eq_true rfl) (by decide) rfl (fun E F9 q => nomatch q.1) (fun v F q => ?_)
  obtain ⟨q, hM2, q2⟩ := q
  cases q
  obtain ⟨h0, h1, hR⟩ := id hM2
  refine AF.if_eq 16 dX9_landing_5 (by decide) (fun c1 => ?_) (fun c1 => ?_)
  · have c1 := bI_z c1
    rw [c1] at hM2 ⊢
    refine AF.iconst (0) dX9_landing_16 (by decide) ?_
    exact AF.ireturn dX9_landing_17 rfl ⟨rfl, ⟨_, f, A, hM2, hS, rfl, hr⟩, hfr.trans q2 (Nat.le_refl _) (Nat.le_refl _)⟩
  · have c1 := bI_n c1
    rw [c1] at hM2 ⊢
    obtain ⟨j, hj, rfl⟩ := hasB_nI (by omega) c1
    rw [cl_nI (by omega)]
    refine AF.aload_n dX9_landing_8 rfl ?_
    refine AF.iload_n dX9_landing_9 rfl ?_
    refine AF.v1 dX9_landing_10 kv_X9_74 ((X9_lands_ok hM2 hS hI.1 j hj)) (by assumption) rfl rfl rfl (Nat.le_of_ble_eq_true rfl) (by decide) rfl ?_
    refine AF.goto 17 dX9_landing_13 (by decide) ?_
    exact AF.ireturn dX9_landing_17 rfl ⟨rfl, ⟨_, f, A, hM2, hS, rfl, hr⟩, hfr.trans q2 (Nat.le_refl _) (Nat.le_refl _)⟩
set_option maxRecDepth 100000 in
theorem X9_isWild_ok (hM : MX G F m X th) (ha : gN G ≤ m) (hI : SQ X.sg B) (x : Int32) : AC G mX9_isWild 6 0 0 [.ref m, .int x] F (MQq G m X (if hasB X.sg.J.length x = true then 0 else 1) (bI (wld X.sg.J X.sg.cap X.sg.w (cl x))) F) := by
  obtain ⟨g, f, A, hM, hS, -, hr⟩ := hM
  have hM0 := hM
  obtain ⟨h0, h1, hR⟩ := hM
  refine AC.of [some (.ref m), some (.int x)] rfl (by decide) (Nat.le_of_ble_eq_true rfl) rfl ?_
  have hfr : Fr m (m + 9) F F := Fr.rf
  have hn := hS.2.1.1
  refine AF.aload_n dX9_isWild_0 rfl ?_
  refine AF.iload_n dX9_isWild_1 rfl ?_
  refine AF.vw dX9_isWild_2 kv_X9_140 (X9_isAsked_ok hM0 ha hS x) (by assumption) rfl rfl rfl (Nat.le_of_ble_eq_true rfl) (by decide) rfl (fun E F9 q => nomatch q.1) (fun v F q => ?_)
  obtain ⟨q, hM2, q2⟩ := q
  cases q
  obtain ⟨h0, h1, hR⟩ := id hM2
  refine AF.if_eq 20 dX9_isWild_5 (by decide) (fun c1 => ?_) (fun c1 => ?_)
  · have c1 := bI_z c1
    rw [c1] at hM2 ⊢
    refine AF.iconst (0) dX9_isWild_20 (by decide) ?_
    exact AF.zreturn dX9_isWild_21 rfl rfl ⟨rfl, ⟨_, f, A, hM2, hS, rfl, hr⟩, hfr.trans q2 (Nat.le_refl _) (Nat.le_refl _)⟩
  · have c1 := bI_n c1
    rw [c1] at hM2 ⊢
    obtain ⟨j, hj, rfl⟩ := hasB_nI (by omega) c1
    rw [cl_nI (by omega)]
    refine AF.aload_n dX9_isWild_8 rfl ?_
    refine AF.iload_n dX9_isWild_9 rfl ?_
    refine AF.v1 dX9_isWild_10 kv_X9_98 ((X9_wild_ok hM2 hS hI.1 j hj)) (by assumption) rfl rfl rfl (Nat.le_of_ble_eq_true rfl) (by decide) rfl ?_
    refine AF.if_eq 20 dX9_isWild_13 (by decide) (fun c2 => ?_) (fun c2 => ?_)
    · have c2 := bI_z c2
      rw [c2]
      refine AF.iconst (0) dX9_isWild_20 (by decide) ?_
      exact AF.zreturn dX9_isWild_21 rfl rfl ⟨rfl, ⟨_, f, A, hM2, hS, rfl, hr⟩, hfr.trans q2 (Nat.le_refl _) (Nat.le_refl _)⟩
    · have c2 := bI_n c2
      rw [c2]
      refine AF.iconst (1) dX9_isWild_16 (by decide) ?_
      refine AF.goto 21 dX9_isWild_17 (by decide) ?_
      exact AF.zreturn dX9_isWild_21 rfl rfl ⟨rfl, ⟨_, f, A, hM2, hS, rfl, hr⟩, hfr.trans q2 (Nat.le_refl _) (Nat.le_refl _)⟩
set_option maxRecDepth 100000 in
theorem X9_stepCount_ok (hM : MX G F m X th) (ha : gN G ≤ m) (x : Int32) : AC G mX9_stepCount 3 0 0 [.ref m, .int x] F (MQq G m X (if hasB X.sg.Fg.length x = true then 0 else 1) (nI (fg X.sg.Fg (cl x)).length) F) := by
  obtain ⟨g, f, A, hM, hS, -, hr⟩ := hM
  have hM0 := hM
  obtain ⟨h0, h1, hR⟩ := hM
  refine AC.of [some (.ref m), some (.int x)] rfl (by decide) (Nat.le_of_ble_eq_true rfl) rfl ?_
  have hfr : Fr m (m + 9) F F := Fr.rf
  have hn := hS.2.2.1.1
  refine AF.aload_n dX9_stepCount_0 rfl ?_
  refine AF.aload_n dX9_stepCount_1 rfl ?_
  refine AF.iload_n dX9_stepCount_2 rfl ?_
  refine AF.v1 dX9_stepCount_3 kv_X9_101 ((X9_isFigure_ok hM0 hS x)) (by assumption) rfl rfl rfl (Nat.le_of_ble_eq_true rfl) (by decide) rfl ?_
  refine AF.if_eq 13 dX9_stepCount_6 (by decide) (fun c1 => ?_) (fun c1 => ?_)
  · have c1 := bI_z c1
    rw [c1]
    refine AF.iconst (nI 1) dX9_stepCount_13 (by decide) ?_
    refine AF.putfieldF dX9_stepCount_14 fp_X9_41 h0 (by omega) (Nat.le_of_ble_eq_true rfl) rfl rfl (Or.inr fq_6_0) ?_
    intro F e9 h9 o9
    replace h1 := (o9 (m + 1) (by omega)).trans h1
    replace hR := hR.kept (fun q h1 h2 => o9 q (by omega))
    replace h0 := h9
    replace hfr := hfr.step e9 (by omega) (by omega) o9
    clear e9 h9 o9
    refine AF.aload_n dX9_stepCount_17 rfl ?_
    refine AF.getfield dX9_stepCount_18 fl_X9_41 (by assumption) rfl ?_
    have hM2 : MA G F m (upd g 0 (nI 1)) f A := ⟨h0, h1, hR⟩
    refine AF.if_le 28 dX9_stepCount_21 (by decide) (fun c2 => ?_) (fun c2 => ?_)
    · exact absurd c2 (nI_nle (by omega) (by omega))
    · refine AF.iconst (nI 0) dX9_stepCount_24 (by decide) ?_
      refine AF.goto 33 dX9_stepCount_25 (by decide) ?_
      exact AF.ireturn dX9_stepCount_33 rfl ⟨rfl, ⟨_, f, A, hM2, hS, rfl, hr⟩, hfr⟩
  · have c1 := bI_n c1
    rw [c1]
    obtain ⟨j, hj, rfl⟩ := hasB_nI (by omega) c1
    rw [cl_nI (by omega)]
    refine AF.iconst (nI 0) dX9_stepCount_9 (by decide) ?_
    refine AF.goto 14 dX9_stepCount_10 (by decide) ?_
    refine AF.putfieldF dX9_stepCount_14 fp_X9_41 h0 (by omega) (Nat.le_of_ble_eq_true rfl) rfl rfl (Or.inr fq_6_0) ?_
    intro F e9 h9 o9
    replace h1 := (o9 (m + 1) (by omega)).trans h1
    replace hR := hR.kept (fun q h1 h2 => o9 q (by omega))
    replace h0 := h9
    replace hfr := hfr.step e9 (by omega) (by omega) o9
    clear e9 h9 o9
    refine AF.aload_n dX9_stepCount_17 rfl ?_
    refine AF.getfield dX9_stepCount_18 fl_X9_41 (by assumption) rfl ?_
    have hM2 : MA G F m (upd g 0 (nI 0)) f A := ⟨h0, h1, hR⟩
    refine AF.if_le 28 dX9_stepCount_21 (by decide) (fun c2 => ?_) (fun c2 => ?_)
    · refine AF.aload_n dX9_stepCount_28 rfl ?_
      refine AF.iload_n dX9_stepCount_29 rfl ?_
      refine AF.v1 dX9_stepCount_30 kv_X9_77 ((X9_steps_ok hM2 j (by omega))) (by assumption) rfl rfl rfl (Nat.le_of_ble_eq_true rfl) (by decide) rfl ?_
      rw [(hS.2.2.1.2 j hj).2.1]
      exact AF.ireturn dX9_stepCount_33 rfl ⟨rfl, ⟨_, f, A, hM2, hS, rfl, hr⟩, hfr⟩
    · exact absurd (Int32.le_refl _) c2
set_option maxRecDepth 100000 in
theorem X9_figureLength_ok (hM : MX G F m X th) (ha : gN G ≤ m) (hI : SQ X.sg B) (x : Int32) : AC G mX9_figureLength 4 0 0 [.ref m, .int x] F (MQq G m X (if hasB X.sg.Fg.length x = true then 0 else 1) (nI (fln (fg X.sg.Fg (cl x)))) F) := by
  obtain ⟨g, f, A, hM, hS, -, hr⟩ := hM
  have hM0 := hM
  obtain ⟨h0, h1, hR⟩ := hM
  refine AC.of [some (.ref m), some (.int x)] rfl (by decide) (Nat.le_of_ble_eq_true rfl) rfl ?_
  have hfr : Fr m (m + 9) F F := Fr.rf
  have hn := hS.2.2.1.1
  refine AF.aload_n dX9_figureLength_0 rfl ?_
  refine AF.aload_n dX9_figureLength_1 rfl ?_
  refine AF.iload_n dX9_figureLength_2 rfl ?_
  refine AF.v1 dX9_figureLength_3 kv_X9_101 ((X9_isFigure_ok hM0 hS x)) (by assumption) rfl rfl rfl (Nat.le_of_ble_eq_true rfl) (by decide) rfl ?_
  refine AF.if_eq 13 dX9_figureLength_6 (by decide) (fun c1 => ?_) (fun c1 => ?_)
  · have c1 := bI_z c1
    rw [c1]
    refine AF.iconst (nI 1) dX9_figureLength_13 (by decide) ?_
    refine AF.putfieldF dX9_figureLength_14 fp_X9_41 h0 (by omega) (Nat.le_of_ble_eq_true rfl) rfl rfl (Or.inr fq_6_0) ?_
    intro F e9 h9 o9
    replace h1 := (o9 (m + 1) (by omega)).trans h1
    replace hR := hR.kept (fun q h1 h2 => o9 q (by omega))
    replace h0 := h9
    replace hfr := hfr.step e9 (by omega) (by omega) o9
    clear e9 h9 o9
    refine AF.aload_n dX9_figureLength_17 rfl ?_
    refine AF.getfield dX9_figureLength_18 fl_X9_41 (by assumption) rfl ?_
    have hM2 : MA G F m (upd g 0 (nI 1)) f A := ⟨h0, h1, hR⟩
    refine AF.if_le 28 dX9_figureLength_21 (by decide) (fun c2 => ?_) (fun c2 => ?_)
    · exact absurd c2 (nI_nle (by omega) (by omega))
    · refine AF.iconst (nI 0) dX9_figureLength_24 (by decide) ?_
      refine AF.goto 33 dX9_figureLength_25 (by decide) ?_
      exact AF.ireturn dX9_figureLength_33 rfl ⟨rfl, ⟨_, f, A, hM2, hS, rfl, hr⟩, hfr⟩
  · have c1 := bI_n c1
    rw [c1]
    obtain ⟨j, hj, rfl⟩ := hasB_nI (by omega) c1
    rw [cl_nI (by omega)]
    refine AF.iconst (nI 0) dX9_figureLength_9 (by decide) ?_
    refine AF.goto 14 dX9_figureLength_10 (by decide) ?_
    refine AF.putfieldF dX9_figureLength_14 fp_X9_41 h0 (by omega) (Nat.le_of_ble_eq_true rfl) rfl rfl (Or.inr fq_6_0) ?_
    intro F e9 h9 o9
    replace h1 := (o9 (m + 1) (by omega)).trans h1
    replace hR := hR.kept (fun q h1 h2 => o9 q (by omega))
    replace h0 := h9
    replace hfr := hfr.step e9 (by omega) (by omega) o9
    clear e9 h9 o9
    refine AF.aload_n dX9_figureLength_17 rfl ?_
    refine AF.getfield dX9_figureLength_18 fl_X9_41 (by assumption) rfl ?_
    have hM2 : MA G F m (upd g 0 (nI 0)) f A := ⟨h0, h1, hR⟩
    refine AF.if_le 28 dX9_figureLength_21 (by decide) (fun c2 => ?_) (fun c2 => ?_)
    · refine AF.aload_n dX9_figureLength_28 rfl ?_
      refine AF.iload_n dX9_figureLength_29 rfl ?_
      refine AF.v1 dX9_figureLength_30 kv_X9_84 ((X9_lasts_ok hM2 hS.2.2.1 hI.1.2.2.1 j hj)) (by assumption) rfl rfl rfl (Nat.le_of_ble_eq_true rfl) (by decide) rfl ?_
      exact AF.ireturn dX9_figureLength_33 rfl ⟨rfl, ⟨_, f, A, hM2, hS, rfl, hr⟩, hfr⟩
    · exact absurd (Int32.le_refl _) c2
set_option maxRecDepth 100000 in
theorem X9_askedStep_ok (hM : MX G F m X th) (ha : gN G ≤ m) (x y : Int32) (c : Nat) (hc : c < 3) : AC G mX9_askedStep 4 0 0 [.ref m, .int x, .int y, .int (nI c)] F (MQq G m X (if hsB X.sg.Fg x y = true then 0 else 1) (if c = 0 then nI (g3 (fg X.sg.Fg (cl x)) (cl y)).1 else if c = 1 then nI (g3 (fg X.sg.Fg (cl x)) (cl y)).2.1 else nI (g3 (fg X.sg.Fg (cl x)) (cl y)).2.2) F) := by
  obtain ⟨g, f, A, hM, hS, -, hr⟩ := hM
  have hT := X9_isStep_ok hM hS x y
  obtain ⟨h0, h1, hR⟩ := hM
  refine AC.of [some (.ref m), some (.int x), some (.int y), some (.int (nI c))] rfl (by decide) (Nat.le_of_ble_eq_true rfl) rfl ?_
  have hfr : Fr m (m + 9) F F := Fr.rf
  have hn := hS.2.2.1.1
  refine AF.aload_n dX9_askedStep_0 rfl ?_
  refine AF.aload_n dX9_askedStep_1 rfl ?_
  refine AF.iload_n dX9_askedStep_2 rfl ?_
  refine AF.iload_n dX9_askedStep_3 rfl ?_
  refine AF.v1 dX9_askedStep_4 kv_X9_104 (hT) (by assumption) rfl rfl rfl (Nat.le_of_ble_eq_true rfl) (by decide) rfl ?_
  refine AF.if_eq 14 dX9_askedStep_7 (by decide) (fun c1 => ?_) (fun c1 => ?_)
  · have c1 := bI_z c1
    rw [c1]
    refine AF.iconst (nI 1) dX9_askedStep_14 (by decide) ?_
    refine AF.putfieldF dX9_askedStep_15 fp_X9_41 h0 (by omega) (Nat.le_of_ble_eq_true rfl) rfl rfl (Or.inr fq_6_0) ?_
    intro F e9 h9 o9
    replace h1 := (o9 (m + 1) (by omega)).trans h1
    replace hR := hR.kept (fun q h1 h2 => o9 q (by omega))
    replace h0 := h9
    replace hfr := hfr.step e9 (by omega) (by omega) o9
    clear e9 h9 o9
    refine AF.aload_n dX9_askedStep_18 rfl ?_
    refine AF.getfield dX9_askedStep_19 fl_X9_41 (by assumption) rfl ?_
    have hM2 : MA G F m (upd g 0 (nI 1)) f A := ⟨h0, h1, hR⟩
    refine AF.if_le 29 dX9_askedStep_22 (by decide) (fun c2 => ?_) (fun c2 => ?_)
    · exact absurd c2 (nI_nle (by omega) (by omega))
    · refine AF.iconst (nI 0) dX9_askedStep_25 (by decide) ?_
      refine AF.goto 36 dX9_askedStep_26 (by decide) ?_
      exact AF.ireturn dX9_askedStep_36 rfl ⟨rfl, ⟨_, f, A, hM2, hS, rfl, hr⟩, hfr⟩
  · have c1 := bI_n c1
    rw [c1]
    have c3 := c1
    unfold hsB at c3
    rw [Bool.and_eq_true] at c3
    obtain ⟨i, hi, rfl⟩ := hasB_nI (by omega) c3.1
    have h8 := (hS.2.2.1.2 i hi).1
    rw [nI_clamp (by omega)] at c3
    obtain ⟨k, hk, rfl⟩ := hasB_nI (by omega) c3.2
    rw [cl_nI (by omega), cl_nI (by omega)]
    have hrow := (hS.2.2.1.2 i hi).2.2 k hk
    refine AF.iconst (nI 0) dX9_askedStep_10 (by decide) ?_
    refine AF.goto 15 dX9_askedStep_11 (by decide) ?_
    refine AF.putfieldF dX9_askedStep_15 fp_X9_41 h0 (by omega) (Nat.le_of_ble_eq_true rfl) rfl rfl (Or.inr fq_6_0) ?_
    intro F e9 h9 o9
    replace h1 := (o9 (m + 1) (by omega)).trans h1
    replace hR := hR.kept (fun q h1 h2 => o9 q (by omega))
    replace h0 := h9
    replace hfr := hfr.step e9 (by omega) (by omega) o9
    clear e9 h9 o9
    refine AF.aload_n dX9_askedStep_18 rfl ?_
    refine AF.getfield dX9_askedStep_19 fl_X9_41 (by assumption) rfl ?_
    have hM2 : MA G F m (upd g 0 (nI 0)) f A := ⟨h0, h1, hR⟩
    refine AF.if_le 29 dX9_askedStep_22 (by decide) (fun c2 => ?_) (fun c2 => ?_)
    · refine AF.aload_n dX9_askedStep_29 rfl ?_
      refine AF.iload_n dX9_askedStep_30 rfl ?_
      refine AF.iload_n dX9_askedStep_31 rfl ?_
      refine AF.iload_n dX9_askedStep_32 rfl ?_
      refine AF.v1 dX9_askedStep_33 kv_X9_80 ((X9_at_ok hM2 i k c (by omega) (by omega) hc)) (by assumption) rfl rfl rfl (Nat.le_of_ble_eq_true rfl) (by decide) rfl ?_
      have hv : f (28 + 25 * i + 1 + 3 * k + c) = (if c = 0 then nI (g3 (fg X.sg.Fg i) k).1 else if c = 1 then nI (g3 (fg X.sg.Fg i) k).2.1 else nI (g3 (fg X.sg.Fg i) k).2.2) := by
        by_cases e0 : c = 0
        · subst e0; exact hrow.1
        · by_cases e1 : c = 1
          · subst e1; exact hrow.2.1
          · have e2 : c = 2 := by omega
            subst e2; exact hrow.2.2
      rw [hv]
      exact AF.ireturn dX9_askedStep_36 rfl ⟨rfl, ⟨_, f, A, hM2, hS, rfl, hr⟩, hfr⟩
    · exact absurd (Int32.le_refl _) c2
set_option maxRecDepth 100000 in
theorem X9_stepDelay_ok (hM : MX G F m X th) (ha : gN G ≤ m) (x y : Int32) : AC G mX9_stepDelay 5 0 0 [.ref m, .int x, .int y] F (MQq G m X (if hsB X.sg.Fg x y = true then 0 else 1) (nI (g3 (fg X.sg.Fg (cl x)) (cl y)).1) F) := by
  have hT := X9_askedStep_ok hM ha x y 0 (by decide)
  obtain ⟨g, f, A, ⟨h0, h1, hR⟩, hS, -, hr⟩ := hM
  refine AC.of [some (.ref m), some (.int x), some (.int y)] rfl (by decide) (Nat.le_of_ble_eq_true rfl) rfl ?_
  refine AF.aload_n dX9_stepDelay_0 rfl ?_
  refine AF.iload_n dX9_stepDelay_1 rfl ?_
  refine AF.iload_n dX9_stepDelay_2 rfl ?_
  refine AF.iconst (nI 0) dX9_stepDelay_3 (by decide) ?_
  refine AF.vw dX9_stepDelay_4 kv_X9_172 (hT) (by assumption) rfl rfl rfl (Nat.le_of_ble_eq_true rfl) (by decide) rfl (fun E F9 q => nomatch q.1) (fun v F q => ?_)
  obtain ⟨q, q2⟩ := q
  cases q
  exact AF.ireturn dX9_stepDelay_7 rfl ⟨rfl, q2⟩
set_option maxRecDepth 100000 in
theorem X9_stepJet_ok (hM : MX G F m X th) (ha : gN G ≤ m) (x y : Int32) : AC G mX9_stepJet 5 0 0 [.ref m, .int x, .int y] F (MQq G m X (if hsB X.sg.Fg x y = true then 0 else 1) (nI (g3 (fg X.sg.Fg (cl x)) (cl y)).2.1) F) := by
  have hT := X9_askedStep_ok hM ha x y 1 (by decide)
  obtain ⟨g, f, A, ⟨h0, h1, hR⟩, hS, -, hr⟩ := hM
  refine AC.of [some (.ref m), some (.int x), some (.int y)] rfl (by decide) (Nat.le_of_ble_eq_true rfl) rfl ?_
  refine AF.aload_n dX9_stepJet_0 rfl ?_
  refine AF.iload_n dX9_stepJet_1 rfl ?_
  refine AF.iload_n dX9_stepJet_2 rfl ?_
  refine AF.iconst (nI 1) dX9_stepJet_3 (by decide) ?_
  refine AF.vw dX9_stepJet_4 kv_X9_172 (hT) (by assumption) rfl rfl rfl (Nat.le_of_ble_eq_true rfl) (by decide) rfl (fun E F9 q => nomatch q.1) (fun v F q => ?_)
  obtain ⟨q, q2⟩ := q
  cases q
  exact AF.ireturn dX9_stepJet_7 rfl ⟨rfl, q2⟩
set_option maxRecDepth 100000 in
theorem X9_stepOpening_ok (hM : MX G F m X th) (ha : gN G ≤ m) (x y : Int32) : AC G mX9_stepOpening 5 0 0 [.ref m, .int x, .int y] F (MQq G m X (if hsB X.sg.Fg x y = true then 0 else 1) (nI (g3 (fg X.sg.Fg (cl x)) (cl y)).2.2) F) := by
  have hT := X9_askedStep_ok hM ha x y 2 (by decide)
  obtain ⟨g, f, A, ⟨h0, h1, hR⟩, hS, -, hr⟩ := hM
  refine AC.of [some (.ref m), some (.int x), some (.int y)] rfl (by decide) (Nat.le_of_ble_eq_true rfl) rfl ?_
  refine AF.aload_n dX9_stepOpening_0 rfl ?_
  refine AF.iload_n dX9_stepOpening_1 rfl ?_
  refine AF.iload_n dX9_stepOpening_2 rfl ?_
  refine AF.iconst (nI 2) dX9_stepOpening_3 (by decide) ?_
  refine AF.vw dX9_stepOpening_4 kv_X9_172 (hT) (by assumption) rfl rfl rfl (Nat.le_of_ble_eq_true rfl) (by decide) rfl (fun E F9 q => nomatch q.1) (fun v F q => ?_)
  obtain ⟨q, q2⟩ := q
  cases q
  exact AF.ireturn dX9_stepOpening_7 rfl ⟨rfl, q2⟩
set_option maxRecDepth 100000 in
theorem X9_askedEntry_ok (hM : MX G F m X th) (ha : gN G ≤ m) (x : Int32) (c : Nat) (hc : c < 2) : AC G mX9_askedEntry 4 0 0 [.ref m, .int x, .int (nI c)] F (MQq G m X (if hasB X.sg.E.length x = true then 0 else 1) (if c = 0 then nI (en X.sg.E (cl x)).1 else nI (en X.sg.E (cl x)).2) F) := by
  obtain ⟨g, f, A, hM, hS, -, hr⟩ := hM
  have hT := X9_isEntry_ok hM hS x
  obtain ⟨h0, h1, hR⟩ := hM
  refine AC.of [some (.ref m), some (.int x), some (.int (nI c))] rfl (by decide) (Nat.le_of_ble_eq_true rfl) rfl ?_
  have hfr : Fr m (m + 9) F F := Fr.rf
  have hn := hS.2.2.2.1
  refine AF.aload_n dX9_askedEntry_0 rfl ?_
  refine AF.aload_n dX9_askedEntry_1 rfl ?_
  refine AF.iload_n dX9_askedEntry_2 rfl ?_
  refine AF.v1 dX9_askedEntry_3 kv_X9_108 (hT) (by assumption) rfl rfl rfl (Nat.le_of_ble_eq_true rfl) (by decide) rfl ?_
  refine AF.if_eq 13 dX9_askedEntry_6 (by decide) (fun c1 => ?_) (fun c1 => ?_)
  · have c1 := bI_z c1
    rw [c1]
    refine AF.iconst (nI 1) dX9_askedEntry_13 (by decide) ?_
    refine AF.putfieldF dX9_askedEntry_14 fp_X9_41 h0 (by omega) (Nat.le_of_ble_eq_true rfl) rfl rfl (Or.inr fq_6_0) ?_
    intro F e9 h9 o9
    replace h1 := (o9 (m + 1) (by omega)).trans h1
    replace hR := hR.kept (fun q h1 h2 => o9 q (by omega))
    replace h0 := h9
    replace hfr := hfr.step e9 (by omega) (by omega) o9
    clear e9 h9 o9
    refine AF.aload_n dX9_askedEntry_17 rfl ?_
    refine AF.getfield dX9_askedEntry_18 fl_X9_41 (by assumption) rfl ?_
    have hM2 : MA G F m (upd g 0 (nI 1)) f A := ⟨h0, h1, hR⟩
    refine AF.if_le 28 dX9_askedEntry_21 (by decide) (fun c2 => ?_) (fun c2 => ?_)
    · exact absurd c2 (nI_nle (by omega) (by omega))
    · refine AF.iconst (nI 0) dX9_askedEntry_24 (by decide) ?_
      refine AF.goto 42 dX9_askedEntry_25 (by decide) ?_
      exact AF.ireturn dX9_askedEntry_42 rfl ⟨rfl, ⟨_, f, A, hM2, hS, rfl, hr⟩, hfr⟩
  · have c1 := bI_n c1
    rw [c1]
    obtain ⟨i, hi, rfl⟩ := hasB_nI (by omega) c1
    rw [cl_nI (by omega)]
    have hrow := hS.2.2.2.2 i hi
    refine AF.iconst (nI 0) dX9_askedEntry_9 (by decide) ?_
    refine AF.goto 14 dX9_askedEntry_10 (by decide) ?_
    refine AF.putfieldF dX9_askedEntry_14 fp_X9_41 h0 (by omega) (Nat.le_of_ble_eq_true rfl) rfl rfl (Or.inr fq_6_0) ?_
    intro F e9 h9 o9
    replace h1 := (o9 (m + 1) (by omega)).trans h1
    replace hR := hR.kept (fun q h1 h2 => o9 q (by omega))
    replace h0 := h9
    replace hfr := hfr.step e9 (by omega) (by omega) o9
    clear e9 h9 o9
    refine AF.aload_n dX9_askedEntry_17 rfl ?_
    refine AF.getfield dX9_askedEntry_18 fl_X9_41 (by assumption) rfl ?_
    have hM2 : MA G F m (upd g 0 (nI 0)) f A := ⟨h0, h1, hR⟩
    refine AF.if_le 28 dX9_askedEntry_21 (by decide) (fun c2 => ?_) (fun c2 => ?_)
    · refine AF.aload_n dX9_askedEntry_28 rfl ?_
      refine AF.getfield dX9_askedEntry_29 fl_X9_7 (by assumption) rfl ?_
      refine AF.sipush (nI 153) dX9_askedEntry_32 (by decide) ?_
      refine AF.iconst (nI 2) dX9_askedEntry_35 (by decide) ?_
      refine AF.iload_n dX9_askedEntry_36 rfl ?_
      refine AF.imul dX9_askedEntry_37 ?_
      refine AF.iadd dX9_askedEntry_38 ?_
      refine AF.iload_n dX9_askedEntry_39 rfl ?_
      refine AF.iadd dX9_askedEntry_40 ?_
      refine AF.iaload (153 + 2 * i + c) dX9_askedEntry_41 (by assumption) (by first | rfl | exact nI_1 _ | (simp only [nI_add, pk_mul, nI_1]; exact congrArg nI (by omega)) | simp only [nI_add, pk_mul, nI_1]) (by omega) (by decide) ?_
      have hv : f (153 + 2 * i + c) = (if c = 0 then nI (en X.sg.E i).1 else nI (en X.sg.E i).2) := by
        by_cases e0 : c = 0
        · subst e0; exact hrow.1
        · have e2 : c = 1 := by omega
          subst e2; exact hrow.2
      rw [hv]
      exact AF.ireturn dX9_askedEntry_42 rfl ⟨rfl, ⟨_, f, A, hM2, hS, rfl, hr⟩, hfr⟩
    · exact absurd (Int32.le_refl _) c2
set_option maxRecDepth 100000 in
theorem X9_entryFigure_ok (hM : MX G F m X th) (ha : gN G ≤ m) (x : Int32) : AC G mX9_entryFigure 5 0 0 [.ref m, .int x] F (MQq G m X (if hasB X.sg.E.length x = true then 0 else 1) (nI (en X.sg.E (cl x)).1) F) := by
  have hT := X9_askedEntry_ok hM ha x 0 (by decide)
  obtain ⟨g, f, A, ⟨h0, h1, hR⟩, hS, -, hr⟩ := hM
  refine AC.of [some (.ref m), some (.int x)] rfl (by decide) (Nat.le_of_ble_eq_true rfl) rfl ?_
  refine AF.aload_n dX9_entryFigure_0 rfl ?_
  refine AF.iload_n dX9_entryFigure_1 rfl ?_
  refine AF.iconst (nI 0) dX9_entryFigure_2 (by decide) ?_
  refine AF.vw dX9_entryFigure_3 kv_X9_187 (hT) (by assumption) rfl rfl rfl (Nat.le_of_ble_eq_true rfl) (by decide) rfl (fun E F9 q => nomatch q.1) (fun v F q => ?_)
  obtain ⟨q, q2⟩ := q
  cases q
  exact AF.ireturn dX9_entryFigure_6 rfl ⟨rfl, q2⟩
set_option maxRecDepth 100000 in
theorem X9_entryStart_ok (hM : MX G F m X th) (ha : gN G ≤ m) (x : Int32) : AC G mX9_entryStart 5 0 0 [.ref m, .int x] F (MQq G m X (if hasB X.sg.E.length x = true then 0 else 1) (nI (en X.sg.E (cl x)).2) F) := by
  have hT := X9_askedEntry_ok hM ha x 1 (by decide)
  obtain ⟨g, f, A, ⟨h0, h1, hR⟩, hS, -, hr⟩ := hM
  refine AC.of [some (.ref m), some (.int x)] rfl (by decide) (Nat.le_of_ble_eq_true rfl) rfl ?_
  refine AF.aload_n dX9_entryStart_0 rfl ?_
  refine AF.iload_n dX9_entryStart_1 rfl ?_
  refine AF.iconst (nI 1) dX9_entryStart_2 (by decide) ?_
  refine AF.vw dX9_entryStart_3 kv_X9_187 (hT) (by assumption) rfl rfl rfl (Nat.le_of_ble_eq_true rfl) (by decide) rfl (fun E F9 q => nomatch q.1) (fun v F q => ?_)
  obtain ⟨q, q2⟩ := q
  cases q
  exact AF.ireturn dX9_entryStart_6 rfl ⟨rfl, q2⟩
end

