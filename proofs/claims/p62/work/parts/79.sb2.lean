/-! The text builder: a sign more, its length, its signs. -/
theorem NB_cpy {a : Nat → Int32} {n : Nat} (h : NB a) : NB (va_cpy a (fun _ => 0) 0 0 n) := by
  intro i
  unfold va_cpy
  split
  · exact h _
  · show vp_nar .byte 0 = 0
    decide
theorem nar_b : ∀ c, c < 128 → vp_nar .byte (nI c) = nI c := by decide +kernel
theorem i2b_n : ∀ c, c < 128 → (nI c).toInt8.toInt32 = nI c := by decide +kernel
theorem NB_upd {a : Nat → Int32} {n : Nat} {x : Int32} (h : NB a) (hx : vp_nar .byte x = x) : NB (upd a n x) := by
  intro i
  by_cases e : i = n
  · rw [e, upd_s]; exact hx
  · rw [upd_n e]; exact h i
section
variable {G : GA} {F : AH} {b bv cap : Nat} {T : List Int32}
set_option maxRecDepth 100000 in
theorem J5_ensure_ok {F0 : AH} (hB : BA G F0 b bv T cap) (hb : gN G ≤ b) (hb1 : b < F0.1) (q : Nat) (hq : q ≤ cap + 2) (hq2 : q ≤ 142) : AC G mJ5_ensureCapacityInternal_d00df 3 1 142 [.ref b, .int (nI q)] F0 (fun r F' => r = .inl none ∧ ∃ bv' cap', BA G F' b bv' T cap' ∧ q ≤ cap' ∧ Gw b bv bv' F0 F') := by
  have hB0 := hB
  obtain ⟨ml, a, ⟨h0, h1⟩, ⟨g1, g2, g3, g4⟩, g5, g6, g7⟩ := hB
  refine AC.of [some (.ref b), some (.int (nI q)), none] rfl (by decide) (Nat.le_of_ble_eq_true rfl) rfl ?_
  refine AF.aload_n dJ5_ensureCapacityInternal_d00df_0 rfl ?_
  refine AF.getfield dJ5_ensureCapacityInternal_d00df_1 fl_J5_15 (by assumption) rfl ?_
  refine AF.arraylength (t0 := 5) (nI cap) dJ5_ensureCapacityInternal_d00df_4 (by assumption) rfl rfl ?_
  refine AF.aload_n dJ5_ensureCapacityInternal_d00df_5 rfl ?_
  refine AF.getfield dJ5_ensureCapacityInternal_d00df_6 fl_J5_22 (by assumption) rfl ?_
  refine AF.ishr0 dJ5_ensureCapacityInternal_d00df_9 ?_
  refine AF.istore_n dJ5_ensureCapacityInternal_d00df_10 (by decide) ?_
  refine AF.iload_n dJ5_ensureCapacityInternal_d00df_11 rfl ?_
  refine AF.iload_n dJ5_ensureCapacityInternal_d00df_12 rfl ?_
  refine AF.isub dJ5_ensureCapacityInternal_d00df_13 ?_
  have e1 : (nI q - nI cap).toInt = (q : Int) - cap := pk_sub_toInt (by omega) (by omega)
  refine AF.if_le 38 dJ5_ensureCapacityInternal_d00df_14 (by decide) (fun c => ?_) (fun c => ?_)
  · rw [Int32.le_iff_toInt_le, e1, Int32.toInt_zero] at c
    exact AF.vreturn dJ5_ensureCapacityInternal_d00df_38 rfl ⟨rfl, bv, cap, hB0, by omega, Gw.rf⟩
  · rw [Int32.le_iff_toInt_le, e1, Int32.toInt_zero] at c
    refine AF.aload_n dJ5_ensureCapacityInternal_d00df_17 rfl ?_
    refine AF.aload_n dJ5_ensureCapacityInternal_d00df_18 rfl ?_
    refine AF.getfield dJ5_ensureCapacityInternal_d00df_19 fl_J5_15 (by assumption) rfl ?_
    refine AF.aload_n dJ5_ensureCapacityInternal_d00df_22 rfl ?_
    refine AF.iload_n dJ5_ensureCapacityInternal_d00df_23 rfl ?_
    refine AF.callPV (mc' := 0) (ms' := 0) dJ5_ensureCapacityInternal_d00df_24 jv_J5_104 (J5_newCapacity_ok h0 h1 (by omega) q (by omega)) h0 rfl rfl (Nat.le_of_ble_eq_true rfl) (by decide) rfl (fun E F' h => AV.x h) (fun v' F' h => ?_)
    obtain ⟨h, h8⟩ := h
    cases h
    rw [h8]
    clear h8
    refine AF.aload_n dJ5_ensureCapacityInternal_d00df_27 rfl ?_
    refine AF.getfield dJ5_ensureCapacityInternal_d00df_28 fl_J5_22 (by assumption) rfl ?_
    refine AF.ishl dJ5_ensureCapacityInternal_d00df_31 ?_
    rw [sb_shl0]
    refine AF.less (d' := 3) (bc' := 0 + 1) (bs' := (142 - (2 * cap + 2)) + (2 * cap + 2)) ?_ (Nat.le_refl _) (Nat.le_refl _) (by omega)
    refine AF.callS (mc' := 1) (ms' := 2 * cap + 2) dJ5_ensureCapacityInternal_d00df_32 jv_J5_108 (J7_copyOf_ok h1 g7 g3 (2 * cap + 2) (by omega) (by omega)) rfl rfl (Nat.le_of_ble_eq_true rfl) (by decide) rfl (fun E F9 h => nomatch h.1) (fun v F h => ?_)
    obtain ⟨h, hz, h7, o7⟩ := h
    cases h
    replace h0 := (o7 b (by omega)).trans h0
    have hmk : ∀ x, (x < F0.1 ∧ ¬ x = b ∧ ¬ x = bv) → F.2 x = F0.2 x := fun x hx => o7 x (by omega)
    clear o7
    refine AF.putfieldF dJ5_ensureCapacityInternal_d00df_35 fp_J5_15 h0 (by omega) (Nat.le_of_ble_eq_true rfl) rfl rfl (Or.inr fq_7_0) ?_
    intro F e9 h9 o9
    replace h7 := (o9 (F0.1) (by omega)).trans h7
    replace h0 := h9
    replace hmk := fun q hq => (o9 q (by omega)).trans (hmk q hq)
    replace hz := e9.trans hz
    clear e9 h9 o9
    exact AF.vreturn dJ5_ensureCapacityInternal_d00df_38 rfl ⟨rfl, F0.1, 2 * cap + 2, ⟨ml, _, ⟨h0, h7⟩, ⟨by omega, by omega, NB_cpy g3, fun i hi => by rw [pk_cpy_in (by omega) (by omega), show 0 + (i - 0) = i by omega]; exact g4 i hi⟩, by omega, by omega, by omega⟩, by omega, ⟨by omega, Or.inr (Nat.le_refl _), fun x x1 x2 x3 => hmk x ⟨x1, x2, x3⟩⟩⟩
def BW (G : GA) (b bv : Nat) (T' : List Int32) (v : Option Value) (F0 : AH) : AR → AH → Prop := fun r F' => r = .inl v ∧ ∃ bv' cap', BA G F' b bv' T' cap' ∧ Gw b bv bv' F0 F'
set_option maxRecDepth 100000 in
theorem J5_appendC_ok {F0 : AH} (hB : BA G F0 b bv T cap) (hb : gN G ≤ b) (hb1 : b < F0.1) (c : Nat) (hc : c < 128) (hl : T.length + 1 ≤ 142) : AC G mJ5_append_3fe6f 4 1 142 [.ref b, .int (nI c)] F0 (BW G b bv (T ++ [nI c]) (some (.ref b)) F0) := by
  have hB0 := hB
  obtain ⟨ml, a, ⟨h0, h1⟩, ⟨g1, g2, g3, g4⟩, g5, g6, g7⟩ := hB
  have e5 : (T ++ [nI c]).length = T.length + 1 := by simp
  refine AC.of [some (.ref b), some (.int (nI c))] rfl (by decide) (Nat.le_of_ble_eq_true rfl) rfl ?_
  refine AF.aload_n dJ5_append_3fe6f_0 rfl ?_
  refine AF.aload_n dJ5_append_3fe6f_1 rfl ?_
  refine AF.getfield dJ5_append_3fe6f_2 fl_J5_79 (by assumption) rfl ?_
  refine AF.iconst (nI 1) dJ5_append_3fe6f_5 (by decide) ?_
  refine AF.iadd dJ5_append_3fe6f_6 ?_
  rw [nI_add]
  refine AF.callPV (bc := 0) (bs := 0) (mc' := 1) (ms' := 142) dJ5_append_3fe6f_7 jv_J5_100 (J5_ensure_ok hB0 hb hb1 (T.length + 1) (by omega) hl) h0 rfl rfl (Nat.le_of_ble_eq_true rfl) (by decide) rfl (fun E F9 h => nomatch h.1) (fun v F h => ?_)
  obtain ⟨h, bv', cap', hB', hq, hg1, hg2, hg3⟩ := h
  cases h
  clear h0 h1 g1 g2 g3 g4 g5 hB0
  obtain ⟨ml, a, ⟨h0, h1⟩, ⟨g1, g2, g3, g4⟩, g5, g8, g9⟩ := hB'
  refine AF.aload_n dJ5_append_3fe6f_10 rfl ?_
  refine AF.callUA (mc' := 0) (ms' := 0) dJ5_append_3fe6f_11 jv_J5_83 (J5_isLatin1_ok h0) h0 rfl rfl rfl (Nat.le_of_ble_eq_true rfl) (by decide) rfl (fun E F' h => AV.x h) (fun v' F' h => ?_)
  obtain ⟨h, rfl⟩ := h
  cases h
  refine AF.if_eq 45 dJ5_append_3fe6f_14 (by decide) (fun c1 => ?_) (fun c1 => ?_)
  · exact absurd c1 (by decide)
  · refine AF.iload_n dJ5_append_3fe6f_17 rfl ?_
    refine AF.s1 dJ5_append_3fe6f_18 jv_J5_191 (J1_canEncode_ok c hc) rfl rfl (Nat.le_of_ble_eq_true rfl) (by decide) rfl ?_
    refine AF.if_eq 45 dJ5_append_3fe6f_21 (by decide) (fun c2 => ?_) (fun c2 => ?_)
    · exact absurd c2 (by decide)
    · have hz : F'.1 = F'.1 := rfl
      have hmk : ∀ x, (x < F0.1 ∧ ¬ x = b ∧ ¬ x = bv) → F'.2 x = F0.2 x := fun x hx => hg3 x hx.1 hx.2.1 hx.2.2
      refine AF.aload_n dJ5_append_3fe6f_24 rfl ?_
      refine AF.getfield dJ5_append_3fe6f_25 fl_J5_15 (by assumption) rfl ?_
      refine AF.aload_n dJ5_append_3fe6f_28 rfl ?_
      refine AF.dup dJ5_append_3fe6f_29 rfl ?_
      refine AF.getfield dJ5_append_3fe6f_30 fl_J5_79 (by assumption) rfl ?_
      refine AF.dup_x1 dJ5_append_3fe6f_33 rfl rfl ?_
      refine AF.iconst (nI 1) dJ5_append_3fe6f_34 (by decide) ?_
      refine AF.iadd dJ5_append_3fe6f_35 ?_
      rw [nI_add]
      refine AF.putfieldF dJ5_append_3fe6f_36 fp_J5_79 h0 (by omega) (Nat.le_of_ble_eq_true rfl) rfl rfl (Or.inr fq_7_3) ?_
      intro F e9 h9 o9
      replace h1 := (o9 (bv') (by omega)).trans h1
      replace h0 := h9
      replace hmk := fun q hq => (o9 q (by omega)).trans (hmk q hq)
      replace hz := e9.trans hz
      clear e9 h9 o9
      refine AF.iload_n dJ5_append_3fe6f_39 rfl ?_
      refine AF.i2b dJ5_append_3fe6f_40 ?_
      rw [i2b_n c hc]
      refine AF.bastoreF (_) dJ5_append_3fe6f_41 h1 (by omega) rfl (by omega) (by omega) ?_
      intro F e9 h9 o9
      replace h0 := (o9 (b) (by omega)).trans h0
      replace h1 := h9
      replace hmk := fun q hq => (o9 q (by omega)).trans (hmk q hq)
      replace hz := e9.trans hz
      clear e9 h9 o9
      refine AF.goto 75 dJ5_append_3fe6f_42 (by decide) ?_
      refine AF.aload_n dJ5_append_3fe6f_75 rfl ?_
      rw [nar_b c hc] at h1
      rw [← e5] at h0
      refine AF.areturn dJ5_append_3fe6f_76 rfl (Or.inl ⟨_, rfl⟩) (Or.inr ⟨_, rfl⟩) ⟨rfl, bv', cap', ⟨ml, _, ⟨h0, h1⟩, ⟨by omega, by omega, NB_upd g3 (nar_b c hc), fun i hi => ?_⟩, by omega, by omega, by omega⟩, ⟨by omega, hg2, fun x x1 x2 x3 => hmk x ⟨x1, x2, x3⟩⟩⟩
      rw [e5] at hi
      rw [gd_app]
      by_cases e : i = T.length
      · rw [if_pos e, e, upd_s]
      · rw [if_neg e, upd_n e]; exact g4 i (by omega)
set_option maxRecDepth 100000 in
theorem J4_appendC_ok (hB : BA G F b bv T cap) (hb : gN G ≤ b) (hb1 : b < F.1) (c : Nat) (hc : c < 128) (hl : T.length + 1 ≤ 142) : AC G mJ4_append_cf468 5 1 142 [.ref b, .int (nI c)] F (BW G b bv (T ++ [nI c]) (some (.ref b)) F) := by
  have hA := J5_appendC_ok hB hb hb1 c hc hl
  obtain ⟨ml, a, ⟨h0, h1⟩, -⟩ := hB
  refine AC.of [some (.ref b), some (.int (nI c))] rfl (by decide) (Nat.le_of_ble_eq_true rfl) rfl ?_
  refine AF.aload_n dJ4_append_cf468_0 rfl ?_
  refine AF.iload_n dJ4_append_cf468_1 rfl ?_
  refine AF.callSU (bc := 0) (bs := 0) (mc' := 1) (ms' := 142) dJ4_append_cf468_2 jv_J4_50 hA h0 rfl rfl (Nat.le_of_ble_eq_true rfl) (by decide) rfl (fun E F9 h => nomatch h.1) (fun v F' h => ?_)
  obtain ⟨h, hk⟩ := h
  cases h
  refine AF.pop dJ4_append_cf468_5 rfl ?_
  refine AF.aload_n dJ4_append_cf468_6 rfl ?_
  exact AF.areturn dJ4_append_cf468_7 rfl (Or.inl ⟨_, rfl⟩) (Or.inr ⟨_, rfl⟩) ⟨rfl, hk⟩
set_option maxRecDepth 100000 in
theorem J5_length_ok (hB : BA G F b bv T cap) : AC G mJ5_length_8abf5 0 0 0 [.ref b] F (AV (some (.int (nI T.length))) F) := by
  obtain ⟨ml, a, ⟨h0, h1⟩, -⟩ := hB
  refine AC.of [some (.ref b)] rfl (by decide) (Nat.le_of_ble_eq_true rfl) rfl ?_
  refine AF.aload_n dJ5_length_8abf5_0 rfl ?_
  refine AF.getfield dJ5_length_8abf5_1 fl_J5_79 (by assumption) rfl ?_
  exact AF.ireturn dJ5_length_8abf5_4 rfl ⟨rfl, rfl⟩
set_option maxRecDepth 100000 in
theorem J4_length_ok (hB : BA G F b bv T cap) : AC G mJ4_length_8abf5 1 0 0 [.ref b] F (AV (some (.int (nI T.length))) F) := by
  have hA := J5_length_ok hB
  obtain ⟨ml, a, ⟨h0, h1⟩, -⟩ := hB
  refine AC.of [some (.ref b)] rfl (by decide) (Nat.le_of_ble_eq_true rfl) rfl ?_
  refine AF.aload_n dJ4_length_8abf5_0 rfl ?_
  refine AF.callSU (mc' := 0) (ms' := 0) dJ4_length_8abf5_1 jv_J4_343 hA h0 rfl rfl (Nat.le_of_ble_eq_true rfl) (by decide) rfl (fun E F' h => AV.x h) (fun v' F' h => ?_)
  obtain ⟨h, rfl⟩ := h
  cases h
  exact AF.ireturn dJ4_length_8abf5_4 rfl ⟨rfl, rfl⟩
end

