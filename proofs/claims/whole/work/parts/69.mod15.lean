/-! The reference is made. -/
def X0 : XS := (s0, none, [], [], [], -1, -1)
section
variable {G : GA} {F : AH} {m : Nat}
set_option maxRecDepth 100000 in
set_option maxHeartbeats 4000000 in
theorem X9_init_ok (hF : F.2 m = some (.inr (6, [.int 0, .null, .null, .null, .null, .null, .int 0, .int 0, .null, .null, .null, .int 0, .int 0, .int 0, .int 0, .int 0, .int 0, .int 0, .int 0, .int 0]))) (ha : gN G ≤ m) (hz : F.1 = m + 1) : AC G mX9_init 1 8 2434 [.ref m] F (fun r F' => r = .inl none ∧ MX G F' m X0 0 ∧ Mk m (m + 9) F F') := by
  refine AC.of [some (.ref m)] rfl (by decide) (Nat.le_of_ble_eq_true rfl) rfl ?_
  have i0 := hF
  have hmk : ∀ q, (q < m ∨ m + 9 ≤ q) → F.2 q = F.2 q := fun _ _ => rfl
  refine AF.aload_n dX9_init_0 rfl ?_
  refine AF.objInit dX9_init_1 ko_X9_1 (Nat.le_of_ble_eq_true rfl) (by decide) ?_
  refine AF.aload_n dX9_init_4 rfl ?_
  refine AF.sipush (165) dX9_init_5 (by decide) ?_
  refine AF.newI (n := 165) (bc := 7) (bs := 2269) dX9_init_8 aw_int (by first | rfl | decide) (by decide) ?_
  intro F e9 h9 o9
  rw [hz] at e9 h9 o9 ⊢
  replace hz : F.1 = m + 2 := e9
  replace i0 := (o9 (m) (by omega)).trans i0
  have h1 := h9
  replace hmk := fun q hq => (o9 q (by omega)).trans (hmk q hq)
  clear e9 h9 o9
  refine AF.putfieldF dX9_init_10 fp_X9_7 i0 (by omega) (Nat.le_of_ble_eq_true rfl) rfl rfl (Or.inl rfl) ?_
  intro F e9 h9 o9
  replace h1 := (o9 (m + 1) (by omega)).trans h1
  replace i0 := h9
  replace hmk := fun q hq => (o9 q (by omega)).trans (hmk q hq)
  replace hz := e9.trans hz
  clear e9 h9 o9
  refine AF.aload_n dX9_init_13 rfl ?_
  refine AF.sipush (165) dX9_init_14 (by decide) ?_
  refine AF.newI (n := 165) (bc := 6) (bs := 2104) dX9_init_17 aw_int (by first | rfl | decide) (by decide) ?_
  intro F e9 h9 o9
  rw [hz] at e9 h9 o9 ⊢
  replace hz : F.1 = m + 3 := e9
  replace i0 := (o9 (m) (by omega)).trans i0
  replace h1 := (o9 (m + 1) (by omega)).trans h1
  have h2 := h9
  replace hmk := fun q hq => (o9 q (by omega)).trans (hmk q hq)
  clear e9 h9 o9
  refine AF.putfieldF dX9_init_19 fp_X9_13 i0 (by omega) (Nat.le_of_ble_eq_true rfl) rfl rfl (Or.inl rfl) ?_
  intro F e9 h9 o9
  replace h1 := (o9 (m + 1) (by omega)).trans h1
  replace h2 := (o9 (m + 2) (by omega)).trans h2
  replace i0 := h9
  replace hmk := fun q hq => (o9 q (by omega)).trans (hmk q hq)
  replace hz := e9.trans hz
  clear e9 h9 o9
  refine AF.aload_n dX9_init_22 rfl ?_
  refine AF.sipush (165) dX9_init_23 (by decide) ?_
  refine AF.newI (n := 165) (bc := 5) (bs := 1939) dX9_init_26 aw_int (by first | rfl | decide) (by decide) ?_
  intro F e9 h9 o9
  rw [hz] at e9 h9 o9 ⊢
  replace hz : F.1 = m + 4 := e9
  replace i0 := (o9 (m) (by omega)).trans i0
  replace h1 := (o9 (m + 1) (by omega)).trans h1
  replace h2 := (o9 (m + 2) (by omega)).trans h2
  have h3 := h9
  replace hmk := fun q hq => (o9 q (by omega)).trans (hmk q hq)
  clear e9 h9 o9
  refine AF.putfieldF dX9_init_28 fp_X9_16 i0 (by omega) (Nat.le_of_ble_eq_true rfl) rfl rfl (Or.inl rfl) ?_
  intro F e9 h9 o9
  replace h1 := (o9 (m + 1) (by omega)).trans h1
  replace h2 := (o9 (m + 2) (by omega)).trans h2
  replace h3 := (o9 (m + 3) (by omega)).trans h3
  replace i0 := h9
  replace hmk := fun q hq => (o9 q (by omega)).trans (hmk q hq)
  replace hz := e9.trans hz
  clear e9 h9 o9
  refine AF.aload_n dX9_init_31 rfl ?_
  refine AF.sipush (1320) dX9_init_32 (by decide) ?_
  refine AF.newI (n := 1320) (bc := 4) (bs := 619) dX9_init_35 aw_int (by first | rfl | decide) (by decide) ?_
  intro F e9 h9 o9
  rw [hz] at e9 h9 o9 ⊢
  replace hz : F.1 = m + 5 := e9
  replace i0 := (o9 (m) (by omega)).trans i0
  replace h1 := (o9 (m + 1) (by omega)).trans h1
  replace h2 := (o9 (m + 2) (by omega)).trans h2
  replace h3 := (o9 (m + 3) (by omega)).trans h3
  have h4 := h9
  replace hmk := fun q hq => (o9 q (by omega)).trans (hmk q hq)
  clear e9 h9 o9
  refine AF.putfieldF dX9_init_37 fp_X9_19 i0 (by omega) (Nat.le_of_ble_eq_true rfl) rfl rfl (Or.inl rfl) ?_
  intro F e9 h9 o9
  replace h1 := (o9 (m + 1) (by omega)).trans h1
  replace h2 := (o9 (m + 2) (by omega)).trans h2
  replace h3 := (o9 (m + 3) (by omega)).trans h3
  replace h4 := (o9 (m + 4) (by omega)).trans h4
  replace i0 := h9
  replace hmk := fun q hq => (o9 q (by omega)).trans (hmk q hq)
  replace hz := e9.trans hz
  clear e9 h9 o9
  refine AF.aload_n dX9_init_40 rfl ?_
  refine AF.sipush (165) dX9_init_41 (by decide) ?_
  refine AF.newI (n := 165) (bc := 3) (bs := 454) dX9_init_44 aw_int (by first | rfl | decide) (by decide) ?_
  intro F e9 h9 o9
  rw [hz] at e9 h9 o9 ⊢
  replace hz : F.1 = m + 6 := e9
  replace i0 := (o9 (m) (by omega)).trans i0
  replace h1 := (o9 (m + 1) (by omega)).trans h1
  replace h2 := (o9 (m + 2) (by omega)).trans h2
  replace h3 := (o9 (m + 3) (by omega)).trans h3
  replace h4 := (o9 (m + 4) (by omega)).trans h4
  have h5 := h9
  replace hmk := fun q hq => (o9 q (by omega)).trans (hmk q hq)
  clear e9 h9 o9
  refine AF.putfieldF dX9_init_46 fp_X9_22 i0 (by omega) (Nat.le_of_ble_eq_true rfl) rfl rfl (Or.inl rfl) ?_
  intro F e9 h9 o9
  replace h1 := (o9 (m + 1) (by omega)).trans h1
  replace h2 := (o9 (m + 2) (by omega)).trans h2
  replace h3 := (o9 (m + 3) (by omega)).trans h3
  replace h4 := (o9 (m + 4) (by omega)).trans h4
  replace h5 := (o9 (m + 5) (by omega)).trans h5
  replace i0 := h9
  replace hmk := fun q hq => (o9 q (by omega)).trans (hmk q hq)
  replace hz := e9.trans hz
  clear e9 h9 o9
  refine AF.aload_n dX9_init_49 rfl ?_
  refine AF.bipush (60) dX9_init_50 (by decide) ?_
  refine AF.newI (n := 60) (bc := 2) (bs := 394) dX9_init_52 aw_int (by first | rfl | decide) (by decide) ?_
  intro F e9 h9 o9
  rw [hz] at e9 h9 o9 ⊢
  replace hz : F.1 = m + 7 := e9
  replace i0 := (o9 (m) (by omega)).trans i0
  replace h1 := (o9 (m + 1) (by omega)).trans h1
  replace h2 := (o9 (m + 2) (by omega)).trans h2
  replace h3 := (o9 (m + 3) (by omega)).trans h3
  replace h4 := (o9 (m + 4) (by omega)).trans h4
  replace h5 := (o9 (m + 5) (by omega)).trans h5
  have h6 := h9
  replace hmk := fun q hq => (o9 q (by omega)).trans (hmk q hq)
  clear e9 h9 o9
  refine AF.putfieldF dX9_init_54 fp_X9_25 i0 (by omega) (Nat.le_of_ble_eq_true rfl) rfl rfl (Or.inl rfl) ?_
  intro F e9 h9 o9
  replace h1 := (o9 (m + 1) (by omega)).trans h1
  replace h2 := (o9 (m + 2) (by omega)).trans h2
  replace h3 := (o9 (m + 3) (by omega)).trans h3
  replace h4 := (o9 (m + 4) (by omega)).trans h4
  replace h5 := (o9 (m + 5) (by omega)).trans h5
  replace h6 := (o9 (m + 6) (by omega)).trans h6
  replace i0 := h9
  replace hmk := fun q hq => (o9 q (by omega)).trans (hmk q hq)
  replace hz := e9.trans hz
  clear e9 h9 o9
  refine AF.aload_n dX9_init_57 rfl ?_
  refine AF.sipush (300) dX9_init_58 (by decide) ?_
  refine AF.newI (n := 300) (bc := 1) (bs := 94) dX9_init_61 aw_int (by first | rfl | decide) (by decide) ?_
  intro F e9 h9 o9
  rw [hz] at e9 h9 o9 ⊢
  replace hz : F.1 = m + 8 := e9
  replace i0 := (o9 (m) (by omega)).trans i0
  replace h1 := (o9 (m + 1) (by omega)).trans h1
  replace h2 := (o9 (m + 2) (by omega)).trans h2
  replace h3 := (o9 (m + 3) (by omega)).trans h3
  replace h4 := (o9 (m + 4) (by omega)).trans h4
  replace h5 := (o9 (m + 5) (by omega)).trans h5
  replace h6 := (o9 (m + 6) (by omega)).trans h6
  have h7 := h9
  replace hmk := fun q hq => (o9 q (by omega)).trans (hmk q hq)
  clear e9 h9 o9
  refine AF.putfieldF dX9_init_63 fp_X9_28 i0 (by omega) (Nat.le_of_ble_eq_true rfl) rfl rfl (Or.inl rfl) ?_
  intro F e9 h9 o9
  replace h1 := (o9 (m + 1) (by omega)).trans h1
  replace h2 := (o9 (m + 2) (by omega)).trans h2
  replace h3 := (o9 (m + 3) (by omega)).trans h3
  replace h4 := (o9 (m + 4) (by omega)).trans h4
  replace h5 := (o9 (m + 5) (by omega)).trans h5
  replace h6 := (o9 (m + 6) (by omega)).trans h6
  replace h7 := (o9 (m + 7) (by omega)).trans h7
  replace i0 := h9
  replace hmk := fun q hq => (o9 q (by omega)).trans (hmk q hq)
  replace hz := e9.trans hz
  clear e9 h9 o9
  refine AF.aload_n dX9_init_66 rfl ?_
  refine AF.bipush (90) dX9_init_67 (by decide) ?_
  refine AF.newI (n := 90) (bc := 0) (bs := 4) dX9_init_69 aw_int (by first | rfl | decide) (by decide) ?_
  intro F e9 h9 o9
  rw [hz] at e9 h9 o9 ⊢
  replace hz : F.1 = m + 9 := e9
  replace i0 := (o9 (m) (by omega)).trans i0
  replace h1 := (o9 (m + 1) (by omega)).trans h1
  replace h2 := (o9 (m + 2) (by omega)).trans h2
  replace h3 := (o9 (m + 3) (by omega)).trans h3
  replace h4 := (o9 (m + 4) (by omega)).trans h4
  replace h5 := (o9 (m + 5) (by omega)).trans h5
  replace h6 := (o9 (m + 6) (by omega)).trans h6
  replace h7 := (o9 (m + 7) (by omega)).trans h7
  have h8 := h9
  replace hmk := fun q hq => (o9 q (by omega)).trans (hmk q hq)
  clear e9 h9 o9
  refine AF.putfieldF dX9_init_71 fp_X9_31 i0 (by omega) (Nat.le_of_ble_eq_true rfl) rfl rfl (Or.inl rfl) ?_
  intro F e9 h9 o9
  replace h1 := (o9 (m + 1) (by omega)).trans h1
  replace h2 := (o9 (m + 2) (by omega)).trans h2
  replace h3 := (o9 (m + 3) (by omega)).trans h3
  replace h4 := (o9 (m + 4) (by omega)).trans h4
  replace h5 := (o9 (m + 5) (by omega)).trans h5
  replace h6 := (o9 (m + 6) (by omega)).trans h6
  replace h7 := (o9 (m + 7) (by omega)).trans h7
  replace h8 := (o9 (m + 8) (by omega)).trans h8
  replace i0 := h9
  replace hmk := fun q hq => (o9 q (by omega)).trans (hmk q hq)
  replace hz := e9.trans hz
  clear e9 h9 o9
  refine AF.aload_n dX9_init_74 rfl ?_
  refine AF.iconst (-1) dX9_init_75 (by decide) ?_
  refine AF.putfieldF dX9_init_76 fp_X9_34 i0 (by omega) (Nat.le_of_ble_eq_true rfl) rfl rfl (Or.inr fq_6_13) ?_
  intro F e9 h9 o9
  replace h1 := (o9 (m + 1) (by omega)).trans h1
  replace h2 := (o9 (m + 2) (by omega)).trans h2
  replace h3 := (o9 (m + 3) (by omega)).trans h3
  replace h4 := (o9 (m + 4) (by omega)).trans h4
  replace h5 := (o9 (m + 5) (by omega)).trans h5
  replace h6 := (o9 (m + 6) (by omega)).trans h6
  replace h7 := (o9 (m + 7) (by omega)).trans h7
  replace h8 := (o9 (m + 8) (by omega)).trans h8
  replace i0 := h9
  replace hmk := fun q hq => (o9 q (by omega)).trans (hmk q hq)
  replace hz := e9.trans hz
  clear e9 h9 o9
  refine AF.aload_n dX9_init_79 rfl ?_
  refine AF.iconst (-1) dX9_init_80 (by decide) ?_
  refine AF.putfieldF dX9_init_81 fp_X9_38 i0 (by omega) (Nat.le_of_ble_eq_true rfl) rfl rfl (Or.inr fq_6_14) ?_
  intro F e9 h9 o9
  replace h1 := (o9 (m + 1) (by omega)).trans h1
  replace h2 := (o9 (m + 2) (by omega)).trans h2
  replace h3 := (o9 (m + 3) (by omega)).trans h3
  replace h4 := (o9 (m + 4) (by omega)).trans h4
  replace h5 := (o9 (m + 5) (by omega)).trans h5
  replace h6 := (o9 (m + 6) (by omega)).trans h6
  replace h7 := (o9 (m + 7) (by omega)).trans h7
  replace h8 := (o9 (m + 8) (by omega)).trans h8
  replace i0 := h9
  replace hmk := fun q hq => (o9 q (by omega)).trans (hmk q hq)
  replace hz := e9.trans hz
  clear e9 h9 o9
  refine AF.aload_n dX9_init_84 rfl ?_
  refine AF.getfield dX9_init_85 fl_X9_7 (by assumption) rfl ?_
  refine AF.iconst (nI 3) dX9_init_88 (by decide) ?_
  refine AF.bipush (nI 40) dX9_init_89 (by decide) ?_
  refine AF.iastoreF (_) dX9_init_91 h1 (by omega) rfl (by omega) (by decide) ?_
  intro F e9 h9 o9
  replace i0 := (o9 (m) (by omega)).trans i0
  replace h2 := (o9 (m + 2) (by omega)).trans h2
  replace h3 := (o9 (m + 3) (by omega)).trans h3
  replace h4 := (o9 (m + 4) (by omega)).trans h4
  replace h5 := (o9 (m + 5) (by omega)).trans h5
  replace h6 := (o9 (m + 6) (by omega)).trans h6
  replace h7 := (o9 (m + 7) (by omega)).trans h7
  replace h8 := (o9 (m + 8) (by omega)).trans h8
  replace h1 := h9
  replace hmk := fun q hq => (o9 q (by omega)).trans (hmk q hq)
  replace hz := e9.trans hz
  clear e9 h9 o9
  refine AF.vreturn dX9_init_92 rfl ⟨rfl, ⟨fun q => if q = 13 ∨ q = 14 then -1 else 0, upd (fun _ => 0) 3 (nI 40), fun _ _ => 0, ⟨i0, h1, h2, h3, h4, h5, h6, h7, h8⟩, ?_, rfl, ⟨rfl, Nat.zero_le _, fun i hi => absurd hi (Nat.not_lt_zero _)⟩, ⟨rfl, fun τ e => by cases e⟩, ⟨rfl, Nat.zero_le _, fun i hi => absurd hi (Nat.not_lt_zero _)⟩, ⟨rfl, Nat.zero_le _, fun i hi => absurd hi (Nat.not_lt_zero _)⟩, rfl, rfl⟩, hz, hmk⟩
  exact ⟨⟨rfl, rfl, rfl, rfl, rfl, rfl, rfl, rfl⟩, ⟨Nat.zero_le _, fun i hi => absurd hi (Nat.not_lt_zero _)⟩, ⟨Nat.zero_le _, fun i hi => absurd hi (Nat.not_lt_zero _)⟩, ⟨Nat.zero_le _, fun i hi => absurd hi (Nat.not_lt_zero _)⟩⟩
end

