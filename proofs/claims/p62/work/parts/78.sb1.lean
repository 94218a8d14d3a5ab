/-! The text builder: room for more signs, a sign more. -/
def NB (a : Nat → Int32) : Prop := ∀ i, vp_nar .byte (a i) = a i
def BA (G : GA) (F : AH) (b bv : Nat) (T : List Int32) (cap : Nat) : Prop := ∃ ml a, (F.2 b = some (.inr (7, [.ref bv, .int 0, .int ml, .int (nI T.length)])) ∧ F.2 bv = some (.inl (gC G 5, cap, .inl a))) ∧ (T.length ≤ cap ∧ (cap = 16 ∨ cap = 34 ∨ cap = 70 ∨ cap = 142) ∧ NB a ∧ ∀ i, i < T.length → a i = T.getD i 0) ∧ ¬ bv = b ∧ gN G ≤ bv ∧ bv < F.1
/-- only the builder b, its row bv are written; what is made is new -/
def Gw (b bv bv' : Nat) (F F' : AH) : Prop := F.1 ≤ F'.1 ∧ (bv' = bv ∨ F.1 ≤ bv') ∧ ∀ x, x < F.1 → ¬ x = b → ¬ x = bv → F'.2 x = F.2 x
theorem Gw.rf {b bv : Nat} {F : AH} : Gw b bv bv F F := ⟨Nat.le_refl _, Or.inl rfl, fun _ _ _ _ => rfl⟩
theorem Gw.trans {b bv bv' bv'' : Nat} {F F' F'' : AH} (h : Gw b bv bv' F F') (k : Gw b bv' bv'' F' F'') : Gw b bv bv'' F F'' := by
  obtain ⟨h1, h2, h3⟩ := h
  obtain ⟨k1, k2, k3⟩ := k
  refine ⟨Nat.le_trans h1 k1, ?_, fun x hx hb hv => (k3 x (by omega) hb (by omega)).trans (h3 x hx hb hv)⟩
  omega
section
variable {G : GA} {F : AH} {b bv cap : Nat} {T : List Int32}
set_option maxRecDepth 100000 in
theorem J5_isLatin1_ok {v z1 z2 : Value} (h0 : F.2 b = some (.inr (7, [v, .int 0, z1, z2]))) : AC G mJ5_isLatin1_aae02 0 0 0 [.ref b] F (AV (some (.int 1)) F) := by
  refine AC.of [some (.ref b)] rfl (by decide) (Nat.le_of_ble_eq_true rfl) rfl (AF.ok fun hG => ?_)
  refine AF.getstatic dJ5_isLatin1_aae02_0 jf_J5_18 hG.2.2.2.2.2.2.1.2.2.2.2.2.2.1 ?_
  refine AF.if_eq 17 dJ5_isLatin1_aae02_3 (by decide) (fun c1 => ?_) (fun c1 => ?_)
  · exact absurd c1 (by decide)
  · refine AF.aload_n dJ5_isLatin1_aae02_6 rfl ?_
    refine AF.getfield dJ5_isLatin1_aae02_7 fl_J5_22 (by assumption) rfl ?_
    refine AF.if_ne 17 dJ5_isLatin1_aae02_10 (by decide) (fun c2 => ?_) (fun c2 => ?_)
    · exact absurd rfl c2
    · refine AF.iconst (1) dJ5_isLatin1_aae02_13 (by decide) ?_
      refine AF.goto 18 dJ5_isLatin1_aae02_14 (by decide) ?_
      exact AF.zreturn dJ5_isLatin1_aae02_18 rfl rfl ⟨rfl, rfl⟩
set_option maxRecDepth 100000 in
theorem J1_canEncode_ok (c : Nat) (hc : c < 128) : AC G mJ1_canEncode_fc78d 0 0 0 [.int (nI c)] F (AV (some (.int 1)) F) := by
  refine AC.of [some (.int (nI c))] rfl (by decide) (Nat.le_of_ble_eq_true rfl) rfl ?_
  refine AF.iload_n dJ1_canEncode_fc78d_0 rfl ?_
  refine AF.sipush (nI 255) dJ1_canEncode_fc78d_1 (by decide) ?_
  refine AF.icmp_gt 11 dJ1_canEncode_fc78d_4 (by decide) (fun c1 => ?_) (fun c1 => ?_)
  · rw [nI_ltI (by omega) (by omega)] at c1
    omega
  · refine AF.iconst (1) dJ1_canEncode_fc78d_7 (by decide) ?_
    refine AF.goto 12 dJ1_canEncode_fc78d_8 (by decide) ?_
    exact AF.zreturn dJ1_canEncode_fc78d_12 rfl rfl ⟨rfl, rfl⟩
set_option maxRecDepth 100000 in
theorem J8_newLength_ok (o g p : Nat) (h0 : 0 < o) (h : o + g < 2 ^ 20) (h' : o + p < 2 ^ 20) : AC G mJ8_newLength_cabcc 1 0 0 [.int (nI o), .int (nI g), .int (nI p)] F (AV (some (.int (nI (o + max g p)))) F) := by
  refine AC.of [some (.int (nI o)), some (.int (nI g)), some (.int (nI p)), none] rfl (by decide) (Nat.le_of_ble_eq_true rfl) rfl ?_
  refine AF.iload_n dJ8_newLength_cabcc_0 rfl ?_
  refine AF.iload_n dJ8_newLength_cabcc_1 rfl ?_
  refine AF.iload_n dJ8_newLength_cabcc_2 rfl ?_
  refine AF.max dJ8_newLength_cabcc_3 km_J8_194 (Nat.le_of_ble_eq_true rfl) (by decide) ?_
  have hm : (if nI g < nI p then nI p else nI g) = nI (max g p) := by
    by_cases q : g < p
    · rw [if_pos (by rw [nI_ltI (by omega) (by omega)]; exact q), Nat.max_eq_right (by omega)]
    · rw [if_neg (by rw [nI_ltI (by omega) (by omega)]; exact q), Nat.max_eq_left (by omega)]
  rw [hm]
  refine AF.iadd dJ8_newLength_cabcc_6 ?_
  rw [nI_add]
  refine AF.istore_n dJ8_newLength_cabcc_7 (by decide) ?_
  refine AF.iconst (nI 0) dJ8_newLength_cabcc_8 (by decide) ?_
  refine AF.iload_n dJ8_newLength_cabcc_9 rfl ?_
  refine AF.icmp_ge 21 dJ8_newLength_cabcc_10 (by decide) (fun c1 => ?_) (fun c1 => ?_)
  · rw [nI_leI (by omega) (by omega)] at c1
    omega
  · refine AF.iload_n dJ8_newLength_cabcc_13 rfl ?_
    refine AF.ldcI (v := nI 2147483639) dJ8_newLength_cabcc_14 kc_J8_200 ?_
    refine AF.icmp_gt 21 dJ8_newLength_cabcc_16 (by decide) (fun c2 => ?_) (fun c2 => ?_)
    · rw [nI_ltI (by omega) (by omega)] at c2
      omega
    · refine AF.iload_n dJ8_newLength_cabcc_19 rfl ?_
      exact AF.ireturn dJ8_newLength_cabcc_20 rfl ⟨rfl, rfl⟩
set_option maxRecDepth 100000 in
theorem J5_newCapacity_ok {a : Nat → Int32} {z1 z2 : Value} (h0 : F.2 b = some (.inr (7, [.ref bv, .int 0, z1, z2]))) (h1 : F.2 bv = some (.inl (gC G 5, cap, .inl a))) (hc : 0 < cap ∧ cap < 1000) (q : Nat) (hq : cap < q ∧ q ≤ cap + 2) : AC G mJ5_newCapacity_0f7a4 2 0 0 [.ref b, .int (nI q)] F (AV (some (.int (nI (2 * cap + 2)))) F) := by
  refine AC.of [some (.ref b), some (.int (nI q)), none, none, none, none] rfl (by decide) (Nat.le_of_ble_eq_true rfl) rfl ?_
  refine AF.aload_n dJ5_newCapacity_0f7a4_0 rfl ?_
  refine AF.getfield dJ5_newCapacity_0f7a4_1 fl_J5_15 (by assumption) rfl ?_
  refine AF.arraylength (t0 := 5) (nI cap) dJ5_newCapacity_0f7a4_4 (by assumption) rfl rfl ?_
  refine AF.istore_n dJ5_newCapacity_0f7a4_5 (by decide) ?_
  refine AF.iload_n dJ5_newCapacity_0f7a4_6 rfl ?_
  refine AF.aload_n dJ5_newCapacity_0f7a4_7 rfl ?_
  refine AF.getfield dJ5_newCapacity_0f7a4_8 fl_J5_22 (by assumption) rfl ?_
  refine AF.ishl dJ5_newCapacity_0f7a4_11 ?_
  rw [sb_shl0]
  refine AF.istore_n dJ5_newCapacity_0f7a4_12 (by decide) ?_
  refine AF.iload_n dJ5_newCapacity_0f7a4_13 rfl ?_
  refine AF.iload_n dJ5_newCapacity_0f7a4_14 rfl ?_
  refine AF.isub dJ5_newCapacity_0f7a4_15 ?_
  rw [pk_sub (by omega)]
  refine AF.istore dJ5_newCapacity_0f7a4_16 (by decide) ?_
  refine AF.iload_n dJ5_newCapacity_0f7a4_18 rfl ?_
  refine AF.iload dJ5_newCapacity_0f7a4_19 rfl ?_
  refine AF.iload_n dJ5_newCapacity_0f7a4_21 rfl ?_
  refine AF.iconst (nI 2) dJ5_newCapacity_0f7a4_22 (by decide) ?_
  refine AF.aload_n dJ5_newCapacity_0f7a4_23 rfl ?_
  refine AF.getfield dJ5_newCapacity_0f7a4_24 fl_J5_22 (by assumption) rfl ?_
  refine AF.ishl dJ5_newCapacity_0f7a4_27 ?_
  rw [sb_shl0]
  refine AF.iadd dJ5_newCapacity_0f7a4_28 ?_
  rw [nI_add]
  refine AF.s1 dJ5_newCapacity_0f7a4_29 jv_J5_114 (J8_newLength_ok cap (q - cap) (cap + 2) hc.1 (by omega) (by omega)) rfl rfl (Nat.le_of_ble_eq_true rfl) (by decide) rfl ?_
  rw [show cap + max (q - cap) (cap + 2) = 2 * cap + 2 by omega]
  refine AF.istore dJ5_newCapacity_0f7a4_32 (by decide) ?_
  refine AF.iload dJ5_newCapacity_0f7a4_34 rfl ?_
  refine AF.ldcI (v := nI 2147483647) dJ5_newCapacity_0f7a4_36 kc_J5_39 ?_
  refine AF.icmp_ne 51 dJ5_newCapacity_0f7a4_38 (by decide) (fun c1 => ?_) (fun c1 => ?_)
  · refine AF.iload dJ5_newCapacity_0f7a4_51 rfl ?_
    refine AF.aload_n dJ5_newCapacity_0f7a4_53 rfl ?_
    refine AF.getfield dJ5_newCapacity_0f7a4_54 fl_J5_22 (by assumption) rfl ?_
    refine AF.ishr0 dJ5_newCapacity_0f7a4_57 ?_
    exact AF.ireturn dJ5_newCapacity_0f7a4_58 rfl ⟨rfl, rfl⟩
  · rw [nI_eq (by omega) (by omega)] at c1
    omega
set_option maxRecDepth 100000 in
theorem J7_copyOf_ok {F0 : AH} {a : Nat → Int32} {x n : Nat} (h1 : F0.2 x = some (.inl (gC G 5, n, .inl a))) (hx : x < F0.1) (hN : NB a) (q : Nat) (hq : n < q ∧ q < 2 ^ 20) (hb : gN G ≤ F0.1) : AC G mJ7_copyOf_9075b 1 1 q [.ref x, .int (nI q)] F0 (fun r F' => r = .inl (some (.ref F0.1)) ∧ F'.1 = F0.1 + 1 ∧ F'.2 F0.1 = some (.inl (gC G 5, q, .inl (va_cpy a (fun _ => 0) 0 0 n))) ∧ ∀ y, ¬ y = F0.1 → F'.2 y = F0.2 y) := by
  refine AC.of [some (.ref x), some (.int (nI q)), none] rfl (by decide) (Nat.le_of_ble_eq_true rfl) rfl ?_
  refine AF.iload_n dJ7_copyOf_9075b_0 rfl ?_
  refine AF.aload_n dJ7_copyOf_9075b_1 rfl ?_
  refine AF.arraylength (t0 := 5) (nI n) dJ7_copyOf_9075b_2 (by assumption) rfl rfl ?_
  refine AF.icmp_ne 14 dJ7_copyOf_9075b_3 (by decide) (fun c1 => ?_) (fun c1 => ?_)
  · refine AF.iload_n dJ7_copyOf_9075b_14 rfl ?_
    refine AF.less (d' := 1) (bc' := 0 + 1) (bs' := 0 + q) ?_ (Nat.le_refl _) (Nat.le_refl _) (by omega)
    refine AF.newB (n := q) (bc := 0) (bs := 0) dJ7_copyOf_9075b_15 aw_byte rfl (by omega) ?_
    intro F e9 h9 o9
    replace h1 := (o9 x (by omega)).trans h1
    refine AF.astore_n dJ7_copyOf_9075b_17 (by decide) ?_
    refine AF.aload_n dJ7_copyOf_9075b_18 rfl ?_
    refine AF.iconst (nI 0) dJ7_copyOf_9075b_19 (by decide) ?_
    refine AF.aload_n dJ7_copyOf_9075b_20 rfl ?_
    refine AF.iconst (nI 0) dJ7_copyOf_9075b_21 (by decide) ?_
    refine AF.aload_n dJ7_copyOf_9075b_22 rfl ?_
    refine AF.arraylength (t0 := 5) (nI n) dJ7_copyOf_9075b_23 (by assumption) rfl rfl ?_
    refine AF.iload_n dJ7_copyOf_9075b_24 rfl ?_
    refine AF.min dJ7_copyOf_9075b_25 km_J7_304 (Nat.le_of_ble_eq_true rfl) (by decide) ?_
    rw [nI_min (by omega) (by omega), Nat.min_eq_left (by omega)]
    refine AF.copyB hN dJ7_copyOf_9075b_28 ka_J7_150 h1 h9 hb rfl rfl rfl (by omega) (by omega) (by omega) (by omega) (Nat.le_of_ble_eq_true rfl) (by decide) ?_
    intro F2 e8 h8 o8
    refine AF.aload_n dJ7_copyOf_9075b_31 rfl ?_
    exact AF.areturn dJ7_copyOf_9075b_32 rfl (Or.inr ⟨_, rfl⟩) (Or.inr ⟨_, rfl⟩) ⟨rfl, e8.trans e9, h8, fun y hy => (o8 y hy).trans (o9 y hy)⟩
  · rw [nI_eq (by omega) (by omega)] at c1
    omega
end

