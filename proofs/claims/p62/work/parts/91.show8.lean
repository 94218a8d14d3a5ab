/-! The show is made. -/
theorem kw_X8_7 : Cond.classLink RX8 7 RX7 ∈ lw_tbl ∧ Cond.arrayOver (.object RX7) ∈ lw_tbl := ⟨tb 42 (by decide +kernel), tb 143 (by decide +kernel)⟩
section
variable {G : GA} {F0 : AH} {c : Nat}
set_option maxRecDepth 100000 in
set_option maxHeartbeats 8000000 in
theorem X8_init_ok (hF : F0.2 c = some (.inr (5, [.null, .null, .null, .int 0, .null, .int 0, .int 0, .null, .null, .null, .int 0, .int 0]))) (ha : gN G ≤ c) (hz : F0.1 = c + 1) : AC G mX8_init 3 130 2101 [.ref c] F0 (fun r F' => r = .inl none ∧ CX G F' c (c + 42) X0 ∧ Mk c (c + 131) F0 F') := by
  refine AC.of [some (.ref c), none] rfl (by decide) (Nat.le_of_ble_eq_true rfl) rfl ?_
  have c0 := hF
  have hmk : ∀ q, (q < c ∨ c + 131 ≤ q) → F0.2 q = F0.2 q := fun _ _ => rfl
  refine AF.aload_n dX8_init_0 rfl ?_
  refine AF.objInit dX8_init_1 ko_X8_1 (Nat.le_of_ble_eq_true rfl) (by decide) ?_
  refine AF.aload_n dX8_init_4 rfl ?_
  refine AF.new (n := 8) (bc := 129) (bs := 2093) dX8_init_5 kn_X8_7 rfl ?_
  intro F e9 h9 o9
  rw [hz] at e9 h9 o9 ⊢
  replace hz : F.1 = c + 2 := e9
  replace c0 := (o9 (c) (by omega)).trans c0
  have h8 := h9
  replace hmk := fun q hq => (o9 q (by omega)).trans (hmk q hq)
  clear e9 h9 o9
  refine AF.dup dX8_init_8 rfl ?_
  refine AF.callIN (mc' := 10) (ms' := 172) (bc := 119) (bs := 1921) dX8_init_9 kn_X8_9 (X7_init_ok h8 (by omega) hz) rfl rfl (Nat.le_of_ble_eq_true rfl) (by decide) rfl (fun E F9 q => nomatch q.1) (fun v F q => ?_)
  obtain ⟨q, hA, hm⟩ := q
  cases q
  clear h8
  replace c0 := (hm.2 (c) (by omega)).trans c0
  replace hmk := fun x hx => (hm.2 x (by omega)).trans (hmk x hx)
  replace hz : F.1 = c + 12 := hm.1
  refine AF.putfieldF dX8_init_12 fp_X8_10 c0 (by omega) (Nat.le_of_ble_eq_true rfl) rfl rfl (Or.inl rfl) ?_
  intro F e9 h9 o9
  replace hA := hA.kept (fun q h1 h2 => o9 q (by omega))
  replace c0 := h9
  replace hmk := fun q hq => (o9 q (by omega)).trans (hmk q hq)
  replace hz := e9.trans hz
  clear e9 h9 o9
  refine AF.aload_n dX8_init_15 rfl ?_
  refine AF.new (n := 8) (bc := 118) (bs := 1913) dX8_init_16 kn_X8_7 rfl ?_
  intro F e9 h9 o9
  rw [hz] at e9 h9 o9 ⊢
  replace hz : F.1 = c + 13 := e9
  replace c0 := (o9 (c) (by omega)).trans c0
  replace hA := hA.kept (fun q h1 h2 => o9 q (by omega))
  have h8 := h9
  replace hmk := fun q hq => (o9 q (by omega)).trans (hmk q hq)
  clear e9 h9 o9
  refine AF.dup dX8_init_19 rfl ?_
  refine AF.callIN (mc' := 10) (ms' := 172) (bc := 108) (bs := 1741) dX8_init_20 kn_X8_9 (X7_init_ok h8 (by omega) hz) rfl rfl (Nat.le_of_ble_eq_true rfl) (by decide) rfl (fun E F9 q => nomatch q.1) (fun v F q => ?_)
  obtain ⟨q, hT, hm⟩ := q
  cases q
  clear h8
  replace c0 := (hm.2 (c) (by omega)).trans c0
  replace hA := hA.kept (fun x h1 h2 => hm.2 x (by omega))
  replace hmk := fun x hx => (hm.2 x (by omega)).trans (hmk x hx)
  replace hz : F.1 = c + 23 := hm.1
  refine AF.putfieldF dX8_init_23 fp_X8_16 c0 (by omega) (Nat.le_of_ble_eq_true rfl) rfl rfl (Or.inl rfl) ?_
  intro F e9 h9 o9
  replace hA := hA.kept (fun q h1 h2 => o9 q (by omega))
  replace hT := hT.kept (fun q h1 h2 => o9 q (by omega))
  replace c0 := h9
  replace hmk := fun q hq => (o9 q (by omega)).trans (hmk q hq)
  replace hz := e9.trans hz
  clear e9 h9 o9
  refine AF.aload_n dX8_init_26 rfl ?_
  refine AF.new (n := 8) (bc := 107) (bs := 1733) dX8_init_27 kn_X8_7 rfl ?_
  intro F e9 h9 o9
  rw [hz] at e9 h9 o9 ⊢
  replace hz : F.1 = c + 24 := e9
  replace c0 := (o9 (c) (by omega)).trans c0
  replace hA := hA.kept (fun q h1 h2 => o9 q (by omega))
  replace hT := hT.kept (fun q h1 h2 => o9 q (by omega))
  have h8 := h9
  replace hmk := fun q hq => (o9 q (by omega)).trans (hmk q hq)
  clear e9 h9 o9
  refine AF.dup dX8_init_30 rfl ?_
  refine AF.callIN (mc' := 10) (ms' := 172) (bc := 97) (bs := 1561) dX8_init_31 kn_X8_9 (X7_init_ok h8 (by omega) hz) rfl rfl (Nat.le_of_ble_eq_true rfl) (by decide) rfl (fun E F9 q => nomatch q.1) (fun v F q => ?_)
  obtain ⟨q, hV, hm⟩ := q
  cases q
  clear h8
  replace c0 := (hm.2 (c) (by omega)).trans c0
  replace hA := hA.kept (fun x h1 h2 => hm.2 x (by omega))
  replace hT := hT.kept (fun x h1 h2 => hm.2 x (by omega))
  replace hmk := fun x hx => (hm.2 x (by omega)).trans (hmk x hx)
  replace hz : F.1 = c + 34 := hm.1
  refine AF.putfieldF dX8_init_34 fp_X8_19 c0 (by omega) (Nat.le_of_ble_eq_true rfl) rfl rfl (Or.inl rfl) ?_
  intro F e9 h9 o9
  replace hA := hA.kept (fun q h1 h2 => o9 q (by omega))
  replace hT := hT.kept (fun q h1 h2 => o9 q (by omega))
  replace hV := hV.kept (fun q h1 h2 => o9 q (by omega))
  replace c0 := h9
  replace hmk := fun q hq => (o9 q (by omega)).trans (hmk q hq)
  replace hz := e9.trans hz
  clear e9 h9 o9
  refine AF.aload_n dX8_init_37 rfl ?_
  refine AF.iconst (0) dX8_init_38 (by decide) ?_
  refine AF.putfieldF dX8_init_39 fp_X8_22 c0 (by omega) (Nat.le_of_ble_eq_true rfl) rfl rfl (Or.inr fq_5_3) ?_
  intro F e9 h9 o9
  replace hA := hA.kept (fun q h1 h2 => o9 q (by omega))
  replace hT := hT.kept (fun q h1 h2 => o9 q (by omega))
  replace hV := hV.kept (fun q h1 h2 => o9 q (by omega))
  replace c0 := h9
  replace hmk := fun q hq => (o9 q (by omega)).trans (hmk q hq)
  replace hz := e9.trans hz
  clear e9 h9 o9
  refine AF.aload_n dX8_init_42 rfl ?_
  refine AF.bipush (8) dX8_init_43 (by decide) ?_
  refine AF.anew (n := 8) (bc := 96) (bs := 1553) dX8_init_45 kw_X8_7 (by first | rfl | decide) (by decide) ?_
  intro F e9 h9 o9
  rw [hz] at e9 h9 o9 ⊢
  replace hz : F.1 = c + 35 := e9
  replace c0 := (o9 (c) (by omega)).trans c0
  replace hA := hA.kept (fun q h1 h2 => o9 q (by omega))
  replace hT := hT.kept (fun q h1 h2 => o9 q (by omega))
  replace hV := hV.kept (fun q h1 h2 => o9 q (by omega))
  have h34 := h9
  replace hmk := fun q hq => (o9 q (by omega)).trans (hmk q hq)
  clear e9 h9 o9
  refine AF.putfieldF dX8_init_48 fp_X8_26 c0 (by omega) (Nat.le_of_ble_eq_true rfl) rfl rfl (Or.inl rfl) ?_
  intro F e9 h9 o9
  replace hA := hA.kept (fun q h1 h2 => o9 q (by omega))
  replace hT := hT.kept (fun q h1 h2 => o9 q (by omega))
  replace hV := hV.kept (fun q h1 h2 => o9 q (by omega))
  replace h34 := (o9 (c + 34) (by omega)).trans h34
  replace c0 := h9
  replace hmk := fun q hq => (o9 q (by omega)).trans (hmk q hq)
  replace hz := e9.trans hz
  clear e9 h9 o9
  refine AF.aload_n dX8_init_51 rfl ?_
  refine AF.iconst (0) dX8_init_52 (by decide) ?_
  refine AF.putfieldF dX8_init_53 fp_X8_30 c0 (by omega) (Nat.le_of_ble_eq_true rfl) rfl rfl (Or.inr fq_5_5) ?_
  intro F e9 h9 o9
  replace hA := hA.kept (fun q h1 h2 => o9 q (by omega))
  replace hT := hT.kept (fun q h1 h2 => o9 q (by omega))
  replace hV := hV.kept (fun q h1 h2 => o9 q (by omega))
  replace h34 := (o9 (c + 34) (by omega)).trans h34
  replace c0 := h9
  replace hmk := fun q hq => (o9 q (by omega)).trans (hmk q hq)
  replace hz := e9.trans hz
  clear e9 h9 o9
  refine AF.aload_n dX8_init_56 rfl ?_
  refine AF.iconst (0) dX8_init_57 (by decide) ?_
  refine AF.putfieldF dX8_init_58 fp_X8_34 c0 (by omega) (Nat.le_of_ble_eq_true rfl) rfl rfl (Or.inr fq_5_6) ?_
  intro F e9 h9 o9
  replace hA := hA.kept (fun q h1 h2 => o9 q (by omega))
  replace hT := hT.kept (fun q h1 h2 => o9 q (by omega))
  replace hV := hV.kept (fun q h1 h2 => o9 q (by omega))
  replace h34 := (o9 (c + 34) (by omega)).trans h34
  replace c0 := h9
  replace hmk := fun q hq => (o9 q (by omega)).trans (hmk q hq)
  replace hz := e9.trans hz
  clear e9 h9 o9
  refine AF.aload_n dX8_init_61 rfl ?_
  refine AF.new (n := 2) (bc := 95) (bs := 1551) dX8_init_62 kn_X8_37 rfl ?_
  intro F e9 h9 o9
  rw [hz] at e9 h9 o9 ⊢
  replace hz : F.1 = c + 36 := e9
  replace c0 := (o9 (c) (by omega)).trans c0
  replace hA := hA.kept (fun q h1 h2 => o9 q (by omega))
  replace hT := hT.kept (fun q h1 h2 => o9 q (by omega))
  replace hV := hV.kept (fun q h1 h2 => o9 q (by omega))
  replace h34 := (o9 (c + 34) (by omega)).trans h34
  have h8 := h9
  replace hmk := fun q hq => (o9 q (by omega)).trans (hmk q hq)
  clear e9 h9 o9
  refine AF.dup dX8_init_65 rfl ?_
  refine AF.callIN (mc' := 2) (ms' := 20) (bc := 93) (bs := 1531) dX8_init_66 kn_X8_39 (X4_init_ok h8 (by omega) hz) rfl rfl (Nat.le_of_ble_eq_true rfl) (by decide) rfl (fun E F9 q => nomatch q.1) (fun v F q => ?_)
  obtain ⟨q, hL, hm⟩ := q
  cases q
  clear h8
  replace c0 := (hm.2 (c) (by omega)).trans c0
  replace hA := hA.kept (fun x h1 h2 => hm.2 x (by omega))
  replace hT := hT.kept (fun x h1 h2 => hm.2 x (by omega))
  replace hV := hV.kept (fun x h1 h2 => hm.2 x (by omega))
  replace h34 := (hm.2 (c + 34) (by omega)).trans h34
  replace hmk := fun x hx => (hm.2 x (by omega)).trans (hmk x hx)
  replace hz : F.1 = c + 38 := hm.1
  refine AF.putfieldF dX8_init_69 fp_X8_40 c0 (by omega) (Nat.le_of_ble_eq_true rfl) rfl rfl (Or.inl rfl) ?_
  intro F e9 h9 o9
  replace hA := hA.kept (fun q h1 h2 => o9 q (by omega))
  replace hT := hT.kept (fun q h1 h2 => o9 q (by omega))
  replace hV := hV.kept (fun q h1 h2 => o9 q (by omega))
  replace h34 := (o9 (c + 34) (by omega)).trans h34
  replace hL := hL.kept (fun q h1 h2 => o9 q (by omega))
  replace c0 := h9
  replace hmk := fun q hq => (o9 q (by omega)).trans (hmk q hq)
  replace hz := e9.trans hz
  clear e9 h9 o9
  refine AF.aload_n dX8_init_72 rfl ?_
  refine AF.new (n := 7) (bc := 92) (bs := 1524) dX8_init_73 kn_X8_44 rfl ?_
  intro F e9 h9 o9
  rw [hz] at e9 h9 o9 ⊢
  replace hz : F.1 = c + 39 := e9
  replace c0 := (o9 (c) (by omega)).trans c0
  replace hA := hA.kept (fun q h1 h2 => o9 q (by omega))
  replace hT := hT.kept (fun q h1 h2 => o9 q (by omega))
  replace hV := hV.kept (fun q h1 h2 => o9 q (by omega))
  replace h34 := (o9 (c + 34) (by omega)).trans h34
  replace hL := hL.kept (fun q h1 h2 => o9 q (by omega))
  have h8 := h9
  replace hmk := fun q hq => (o9 q (by omega)).trans (hmk q hq)
  clear e9 h9 o9
  refine AF.dup dX8_init_76 rfl ?_
  refine AF.callIN (mc' := 2) (ms' := 64) (bc := 90) (bs := 1460) dX8_init_77 kn_X8_46 (X6_init_ok h8 (by omega) hz) rfl rfl (Nat.le_of_ble_eq_true rfl) (by decide) rfl (fun E F9 q => nomatch q.1) (fun v F q => ?_)
  obtain ⟨q, hB, hm⟩ := q
  cases q
  clear h8
  replace c0 := (hm.2 (c) (by omega)).trans c0
  replace hA := hA.kept (fun x h1 h2 => hm.2 x (by omega))
  replace hT := hT.kept (fun x h1 h2 => hm.2 x (by omega))
  replace hV := hV.kept (fun x h1 h2 => hm.2 x (by omega))
  replace h34 := (hm.2 (c + 34) (by omega)).trans h34
  replace hL := hL.kept (fun x h1 h2 => hm.2 x (by omega))
  replace hmk := fun x hx => (hm.2 x (by omega)).trans (hmk x hx)
  replace hz : F.1 = c + 41 := hm.1
  refine AF.putfieldF dX8_init_80 fp_X8_47 c0 (by omega) (Nat.le_of_ble_eq_true rfl) rfl rfl (Or.inl rfl) ?_
  intro F e9 h9 o9
  replace hA := hA.kept (fun q h1 h2 => o9 q (by omega))
  replace hT := hT.kept (fun q h1 h2 => o9 q (by omega))
  replace hV := hV.kept (fun q h1 h2 => o9 q (by omega))
  replace h34 := (o9 (c + 34) (by omega)).trans h34
  replace hL := hL.kept (fun q h1 h2 => o9 q (by omega))
  replace hB := hB.kept (fun q h1 h2 => o9 q (by omega))
  replace c0 := h9
  replace hmk := fun q hq => (o9 q (by omega)).trans (hmk q hq)
  replace hz := e9.trans hz
  clear e9 h9 o9
  refine AF.aload_n dX8_init_83 rfl ?_
  refine AF.new (n := 4) (bc := 89) (bs := 1456) dX8_init_84 kn_X8_51 rfl ?_
  intro F e9 h9 o9
  rw [hz] at e9 h9 o9 ⊢
  replace hz : F.1 = c + 42 := e9
  replace c0 := (o9 (c) (by omega)).trans c0
  replace hA := hA.kept (fun q h1 h2 => o9 q (by omega))
  replace hT := hT.kept (fun q h1 h2 => o9 q (by omega))
  replace hV := hV.kept (fun q h1 h2 => o9 q (by omega))
  replace h34 := (o9 (c + 34) (by omega)).trans h34
  replace hL := hL.kept (fun q h1 h2 => o9 q (by omega))
  replace hB := hB.kept (fun q h1 h2 => o9 q (by omega))
  have h8 := h9
  replace hmk := fun q hq => (o9 q (by omega)).trans (hmk q hq)
  clear e9 h9 o9
  refine AF.dup dX8_init_87 rfl ?_
  refine AF.callI (mc' := 1) (ms' := 16) (bc := 88) (bs := 1440) dX8_init_88 jv_X8_53 (J4_init_ok h8 (by omega) hz) rfl rfl (Nat.le_of_ble_eq_true rfl) (by decide) rfl (fun E F9 q => nomatch q.1) (fun v F q => ?_)
  obtain ⟨q, hO, hm⟩ := q
  cases q
  clear h8
  replace c0 := (hm.2 (c) (by omega)).trans c0
  replace hA := hA.kept (fun x h1 h2 => hm.2 x (by omega))
  replace hT := hT.kept (fun x h1 h2 => hm.2 x (by omega))
  replace hV := hV.kept (fun x h1 h2 => hm.2 x (by omega))
  replace h34 := (hm.2 (c + 34) (by omega)).trans h34
  replace hL := hL.kept (fun x h1 h2 => hm.2 x (by omega))
  replace hB := hB.kept (fun x h1 h2 => hm.2 x (by omega))
  replace hmk := fun x hx => (hm.2 x (by omega)).trans (hmk x hx)
  replace hz : F.1 = c + 43 := hm.1
  obtain ⟨ml, a, ⟨b0, b1⟩, hb2, hb3, hb4, hb5⟩ := hO
  refine AF.putfieldF dX8_init_91 fp_X8_54 c0 (by omega) (Nat.le_of_ble_eq_true rfl) rfl rfl (Or.inl rfl) ?_
  intro F e9 h9 o9
  replace hA := hA.kept (fun q h1 h2 => o9 q (by omega))
  replace hT := hT.kept (fun q h1 h2 => o9 q (by omega))
  replace hV := hV.kept (fun q h1 h2 => o9 q (by omega))
  replace h34 := (o9 (c + 34) (by omega)).trans h34
  replace hL := hL.kept (fun q h1 h2 => o9 q (by omega))
  replace hB := hB.kept (fun q h1 h2 => o9 q (by omega))
  replace b0 := (o9 (c + 41) (by omega)).trans b0
  replace b1 := (o9 (c + 42) (by omega)).trans b1
  replace c0 := h9
  replace hmk := fun q hq => (o9 q (by omega)).trans (hmk q hq)
  replace hz := e9.trans hz
  clear e9 h9 o9
  refine AF.aload_n dX8_init_94 rfl ?_
  refine AF.iconst (-1) dX8_init_95 (by decide) ?_
  refine AF.putfieldF dX8_init_96 fp_X8_58 c0 (by omega) (Nat.le_of_ble_eq_true rfl) rfl rfl (Or.inr fq_5_10) ?_
  intro F e9 h9 o9
  replace hA := hA.kept (fun q h1 h2 => o9 q (by omega))
  replace hT := hT.kept (fun q h1 h2 => o9 q (by omega))
  replace hV := hV.kept (fun q h1 h2 => o9 q (by omega))
  replace h34 := (o9 (c + 34) (by omega)).trans h34
  replace hL := hL.kept (fun q h1 h2 => o9 q (by omega))
  replace hB := hB.kept (fun q h1 h2 => o9 q (by omega))
  replace b0 := (o9 (c + 41) (by omega)).trans b0
  replace b1 := (o9 (c + 42) (by omega)).trans b1
  replace c0 := h9
  replace hmk := fun q hq => (o9 q (by omega)).trans (hmk q hq)
  replace hz := e9.trans hz
  clear e9 h9 o9
  refine AF.aload_n dX8_init_99 rfl ?_
  refine AF.iconst (-1) dX8_init_100 (by decide) ?_
  refine AF.putfieldF dX8_init_101 fp_X8_61 c0 (by omega) (Nat.le_of_ble_eq_true rfl) rfl rfl (Or.inr fq_5_11) ?_
  intro F e9 h9 o9
  replace hA := hA.kept (fun q h1 h2 => o9 q (by omega))
  replace hT := hT.kept (fun q h1 h2 => o9 q (by omega))
  replace hV := hV.kept (fun q h1 h2 => o9 q (by omega))
  replace h34 := (o9 (c + 34) (by omega)).trans h34
  replace hL := hL.kept (fun q h1 h2 => o9 q (by omega))
  replace hB := hB.kept (fun q h1 h2 => o9 q (by omega))
  replace b0 := (o9 (c + 41) (by omega)).trans b0
  replace b1 := (o9 (c + 42) (by omega)).trans b1
  replace c0 := h9
  replace hmk := fun q hq => (o9 q (by omega)).trans (hmk q hq)
  replace hz := e9.trans hz
  clear e9 h9 o9
  have loop : ∀ r i F1 hf, i + r = 8 → F1.1 = c + 43 + 11 * i → F1.2 c = some (.inr (5, [.ref (c + 1), .ref (c + 12), .ref (c + 23), .int 0, .ref (c + 34), .int 0, .int 0, .ref (c + 35), .ref (c + 38), .ref (c + 41), .int (-1), .int (-1)])) → SA G F1 (c + 1) s0 → SA G F1 (c + 12) s0 → SA G F1 (c + 23) s0 → F1.2 (c + 34) = some (.inl (gC G 4, 8, .inr (.inr (.inr (.inr hf))))) → LSA G F1 (c + 35) → TS G F1 (c + 38) [] 0 0 4 [] → F1.2 (c + 41) = some (.inr (7, [.ref (c + 41 + 1), .int 0, .int ml, .int (nI 0)])) → F1.2 (c + 42) = some (.inl (gC G 5, 16, .inl a)) → (∀ j, j < i → hf j = some (c + 43 + 11 * j) ∧ SA G F1 (c + 43 + 11 * j) s0) → (∀ q, (q < c ∨ c + 131 ≤ q) → F1.2 q = F0.2 q) → AF G mX8_init 3 (11 * r) (180 * r) (fun r F' => r = .inl none ∧ CX G F' c (c + 42) X0 ∧ Mk c (c + 131) F0 F') F1 106 [some (.ref c), some (.int (nI i))] [] := by
    intro r
    induction r with
    | zero =>
      intro i F1 hf hi hz c0 hA hT hV h34 hL hB b0 b1 hs hmk
      obtain rfl : i = 8 := by omega
      refine AF.iload_n dX8_init_106 rfl ?_
      refine AF.bipush (nI 8) dX8_init_107 (by decide) ?_
      refine AF.icmp_ge 131 dX8_init_109 (by decide) (fun c1 => ?_) (fun c1 => ?_)
      · refine AF.vreturn dX8_init_131 rfl ⟨rfl, ⟨0, hf, ⟨c0, h34⟩, fun j hj => (hs j hj).1, hA, ⟨_, hT⟩, ⟨_, hV, fun σ e => by cases (show (none : Option Sg) = some σ from e)⟩, ⟨⟨by decide, Nat.zero_le _⟩, fun j hj => ⟨_, (hs j hj).2, fun k hk => absurd hk (Nat.not_lt_zero _)⟩⟩, hL, ⟨_, _, _, _, hB⟩, ⟨16, ml, a, ⟨b0, b1⟩, hb2, by omega, by omega, by omega⟩, Or.inl rfl⟩, hz, hmk⟩
      · exact absurd (Int32.le_refl _) c1
    | succ r ih =>
      intro i F1 hf hi hz c0 hA hT hV h34 hL hB b0 b1 hs hmk
      obtain ⟨z, hz9⟩ : ∃ z, z = c + 43 + 11 * i := ⟨_, rfl⟩
      rw [← hz9] at hz
      refine AF.iload_n dX8_init_106 rfl ?_
      refine AF.bipush (nI 8) dX8_init_107 (by decide) ?_
      refine AF.icmp_ge 131 dX8_init_109 (by decide) (fun c1 => ?_) (fun c1 => ?_)
      · rw [nI_leI (by omega) (by omega)] at c1
        omega
      · refine AF.aload_n dX8_init_112 rfl ?_
        refine AF.getfield dX8_init_113 fl_X8_26 (by assumption) rfl ?_
        refine AF.iload_n dX8_init_116 rfl ?_
        show AF G mX8_init 3 (11 * r + 10 + 1) (180 * r + 172 + 8) _ _ _ _ _
        refine AF.new (n := 8) (bc := 11 * r + 10) (bs := 180 * r + 172) dX8_init_117 kn_X8_7 rfl ?_
        intro F e9 h9 o9
        rw [hz] at e9 h9 o9 ⊢
        replace hz : F.1 = z + 1 := e9
        replace c0 := (o9 c (by omega)).trans c0
        replace hA := hA.kept (fun q h1 h2 => o9 q (by omega))
        replace hT := hT.kept (fun q h1 h2 => o9 q (by omega))
        replace hV := hV.kept (fun q h1 h2 => o9 q (by omega))
        replace h34 := (o9 (c + 34) (by omega)).trans h34
        replace hL := hL.kept (fun q h1 h2 => o9 q (by omega))
        replace hB := hB.kept (fun q h1 h2 => o9 q (by omega))
        replace b0 := (o9 (c + 41) (by omega)).trans b0
        replace b1 := (o9 (c + 42) (by omega)).trans b1
        replace hs : ∀ j, j < i → hf j = some (c + 43 + 11 * j) ∧ SA G F (c + 43 + 11 * j) s0 := fun j hj => ⟨(hs j hj).1, (hs j hj).2.kept (fun q h1 h2 => o9 q (by omega))⟩
        replace hmk : ∀ q, (q < c ∨ c + 131 ≤ q) → F.2 q = F0.2 q := fun q hq => (o9 q (by omega)).trans (hmk q hq)
        clear e9 o9
        refine AF.dup dX8_init_120 rfl ?_
        refine AF.callIN (mc' := 10) (ms' := 172) (bc := 11 * r) (bs := 180 * r) dX8_init_121 kn_X8_9 (X7_init_ok h9 (by omega) hz) rfl rfl (Nat.le_of_ble_eq_true rfl) (by decide) rfl (fun E F9 q => nomatch q.1) (fun v F q => ?_)
        obtain ⟨q, hS, hm⟩ := q
        cases q
        clear h9
        replace c0 := (hm.2 c (by omega)).trans c0
        replace hA := hA.kept (fun q h1 h2 => hm.2 q (by omega))
        replace hT := hT.kept (fun q h1 h2 => hm.2 q (by omega))
        replace hV := hV.kept (fun q h1 h2 => hm.2 q (by omega))
        replace h34 := (hm.2 (c + 34) (by omega)).trans h34
        replace hL := hL.kept (fun q h1 h2 => hm.2 q (by omega))
        replace hB := hB.kept (fun q h1 h2 => hm.2 q (by omega))
        replace b0 := (hm.2 (c + 41) (by omega)).trans b0
        replace b1 := (hm.2 (c + 42) (by omega)).trans b1
        replace hs : ∀ j, j < i → hf j = some (c + 43 + 11 * j) ∧ SA G F (c + 43 + 11 * j) s0 := fun j hj => ⟨(hs j hj).1, (hs j hj).2.kept (fun q h1 h2 => hm.2 q (by omega))⟩
        replace hmk : ∀ q, (q < c ∨ c + 131 ≤ q) → F.2 q = F0.2 q := fun q hq => (hm.2 q (by omega)).trans (hmk q hq)
        replace hz := hm.1
        clear hm
        obtain ⟨ef, es, ⟨t0, -⟩, -, -⟩ := id hS
        refine AF.aastore i dX8_init_124 h34 t0 (by omega) rfl (by omega) (by decide) ?_
        intro F2 e9 h9 o9
        have hup : ∀ j, j < i + 1 → va_up hf i (some z) j = some (c + 43 + 11 * j) := fun j hj => by
          unfold va_up
          by_cases e : j = i
          · rw [if_pos e, hz9, e]
          · rw [if_neg e]; exact (hs j (by omega)).1
        refine AF.inc1 dX8_init_125 rfl (by decide) ?_
        refine AF.goto 106 dX8_init_128 (by decide) ?_
        refine ih (i + 1) F2 (va_up hf i (some z)) (by omega) (by rw [e9, hz]; omega) ((o9 c (by omega)).trans c0) (hA.kept (fun q h1 h2 => o9 q (by omega))) (hT.kept (fun q h1 h2 => o9 q (by omega))) (hV.kept (fun q h1 h2 => o9 q (by omega))) h9 (hL.kept (fun q h1 h2 => o9 q (by omega))) (hB.kept (fun q h1 h2 => o9 q (by omega))) ((o9 (c + 41) (by omega)).trans b0) ((o9 (c + 42) (by omega)).trans b1) (fun j hj => ⟨hup j hj, ?_⟩) (fun q hq => (o9 q (by omega)).trans (hmk q hq))
        by_cases e : j = i
        · rw [e, ← hz9]
          exact hS.kept (fun q h1 h2 => o9 q (by omega))
        · exact (hs j (by omega)).2.kept (fun q h1 h2 => o9 q (by omega))
  refine AF.iconst (nI 0) dX8_init_104 (by decide) ?_
  refine AF.istore_n dX8_init_105 (by decide) ?_
  exact loop 8 0 _ _ (by omega) hz c0 hA hT hV h34 hL hB b0 b1 (fun j hj => absurd hj (Nat.not_lt_zero _)) hmk
end

