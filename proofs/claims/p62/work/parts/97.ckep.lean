/-! The law: undoing, and the saved stage. -/
theorem XF.at {c bv0 bv q : Nat} {F0 F : AH} (h : XF c bv0 bv F0 F) (h1 : q < F0.1) (h2 : c + 131 ≤ q) (h3 : ¬ q = bv0) : F.2 q = F0.2 q := h.2.2 q h1 (Or.inr h2) h3
theorem XF.bq {c bv0 bv q : Nat} {F0 F : AH} (h : XF c bv0 bv F0 F) (h1 : q < F0.1) (h3 : ¬ q = bv0) : ¬ q = bv := by
  have := h.2.1
  omega
theorem nI_m1 (k : Nat) : nI k + Int32.ofInt (-1) = nI k - nI 1 := by
  rw [Int32.sub_eq_add_neg]
  congr 1
/-- the stages so far, the sums of them, and those that can be undone -/
def HI (hist : Nat → Sg) (f : Nat → Int64) (m : Nat) (Y : YS) : Prop := Y.1 = hist m ∧ (∀ i, i ≤ m → f i = sumV (hist i)) ∧ Y.2.2.length = (if m < 8 then m else 8) ∧ ∀ k, k < Y.2.2.length → hget Y.2.2 k = hist (m - Y.2.2.length + k)
section
variable {G : GA} {F0 : AH} {c bv0 B : Nat} {Y : YS}
set_option maxRecDepth 100000 in
set_option maxHeartbeats 4000000 in
theorem L_isKept_ok {hist : Nat → Sg} {f : Nat → Int64} {m : Nat} (hK0 : LK G c Y B bv0 F0) (ha : gN G ≤ c) (hm : m ≤ 58) (hH : HI hist f m Y) (hf : F0.2 (c + 131) = some (.inl (gC G 1, 80, .inr (.inl f)))) (h1 : c + 131 < F0.1) (h3 : ¬ c + 131 = bv0) : AC G mL_isKept 14 5789 334614 [.ref c, .ref (c + 131), .int (nI m)] F0 (LR (LK G c (Y.1, some Y.1, []) B) c bv0 F0 (.int 1)) := by
  obtain ⟨H1, H2, H3, H4⟩ := hH
  have hL8 : Y.2.2.length ≤ 8 := by rw [H3]; split <;> omega
  have hLm : Y.2.2.length ≤ m := by rw [H3]; split <;> omega
  have fin : ∀ F bv bc bs l4 l5 (Y' : YS), 645 ≤ bc → 37190 ≤ bs → Y'.2.1 = some Y.1 → Y'.2.2 = [] → LK G c Y' B bv F → XF c bv0 bv F0 F → AF G mL_isKept 14 bc bs (LR (LK G c (Y.1, some Y.1, []) B) c bv0 F0 (.int 1)) F 66 [some (.ref c), some (.ref (c + 131)), some (.int (nI m)), some (.int (nI Y.1.J.length)), l4, l5] [] := by
    intro F bv bc bs l4 l5 Y' hb hs hsv hhs hK hX
    refine AF.less (d' := 14) (bc' := 645) (bs' := 37190) ?_ (Nat.le_refl _) (by omega) (by omega)
    refine AF.aload_n dL_isKept_66 rfl ?_
    refine AF.lx (mc' := 1) (ms' := 6) (bc := 644) (bs := 37184) dL_isKept_67 kx_L_384 (W_undo_no hK ha (by rw [hhs]; rfl)) hX rfl rfl (Nat.le_of_ble_eq_true rfl) (by decide) rfl (fun F bv hK hX => ?_)
    refine AF.sipush (-7900) dL_isKept_70 (by decide) ?_
    refine AF.icmp_ne 109 dL_isKept_73 (by decide) (fun c1 => ?_) (fun c1 => ?_)
    · exact absurd rfl c1
    · refine AF.aload_n dL_isKept_76 rfl ?_
      refine AF.lx (mc' := 1) (ms' := 6) (bc := 643) (bs := 37178) dL_isKept_77 kx_L_386 (W_restore hK ha hsv) hX rfl rfl (Nat.le_of_ble_eq_true rfl) (by decide) rfl (fun F bv hK hX => ?_)
      refine AF.iload_n dL_isKept_80 rfl ?_
      refine AF.icmp_ne 109 dL_isKept_81 (by decide) (fun c2 => ?_) (fun c2 => ?_)
      · exact absurd rfl c2
      · refine AF.aload_n dL_isKept_84 rfl ?_
        refine AF.ly (mc' := 642) (ms' := 37172) (bc := 1) (bs := 6) dL_isKept_85 kv_L_181 (L_sum_ok hK ha) hX rfl rfl (Nat.le_of_ble_eq_true rfl) (by decide) rfl (fun F bv hK hX => ?_)
        refine AF.aload_n dL_isKept_88 rfl ?_
        refine AF.iload_n dL_isKept_89 rfl ?_
        refine AF.laload m dL_isKept_90 ((hX.at h1 (Nat.le_refl _) h3).trans hf) rfl (by omega) (by decide) ?_
        rw [H2 m (Nat.le_refl _), ← H1]
        refine AF.lcmp dL_isKept_91 ?_
        refine AF.if_ne 109 dL_isKept_92 (by decide) (fun c3 => ?_) (fun c3 => ?_)
        · exact absurd lcmp_self c3
        · refine AF.aload_n dL_isKept_95 rfl ?_
          refine AF.lx (mc' := 1) (ms' := 6) (bc := 0) (bs := 0) dL_isKept_96 kx_L_384 (W_undo_no hK ha rfl) hX rfl rfl (Nat.le_of_ble_eq_true rfl) (by decide) rfl (fun F bv hK hX => ?_)
          refine AF.sipush (-7900) dL_isKept_99 (by decide) ?_
          refine AF.icmp_ne 109 dL_isKept_102 (by decide) (fun c4 => ?_) (fun c4 => ?_)
          · exact absurd rfl c4
          · refine AF.iconst (1) dL_isKept_105 (by decide) ?_
            refine AF.goto 110 dL_isKept_106 (by decide) ?_
            exact AF.zreturn dL_isKept_110 rfl rfl ⟨rfl, bv, hK, hX⟩
  have lp : ∀ l F bv bc bs (Y' : YS), l ≤ Y.2.2.length → 643 * l + 645 ≤ bc → 37178 * l + 37190 ≤ bs → Y'.2.1 = some Y.1 → Y'.2.2 = Y.2.2.take l → LK G c Y' B bv F → XF c bv0 bv F0 F → AF G mL_isKept 14 bc bs (LR (LK G c (Y.1, some Y.1, []) B) c bv0 F0 (.int 1)) F 29 [some (.ref c), some (.ref (c + 131)), some (.int (nI m)), some (.int (nI Y.1.J.length)), some (.int (nI l)), some (.int (nI (m - Y.2.2.length + l) - nI 1))] [] := by
    intro l
    induction l with
    | zero =>
      intro F bv bc bs Y' hl hb hs hsv hhs hK hX
      refine AF.iload dL_isKept_29 rfl ?_
      refine AF.if_le 66 dL_isKept_31 (by decide) (fun c1 => ?_) (fun c1 => ?_)
      · exact fin F bv _ _ _ _ Y' (by omega) (by omega) hsv (by rw [hhs]; rfl) hK hX
      · exact absurd (by decide) c1
    | succ l ih =>
      intro F bv bc bs Y' hl hb hs hsv hhs hK hX
      have hlen : Y'.2.2.length = l + 1 := by rw [hhs, List.length_take]; omega
      have hget9 : hget Y'.2.2 (Y'.2.2.length - 1) = hist (m - Y.2.2.length + l) := by
        rw [hlen, hhs, Nat.add_sub_cancel, ← H4 l (by omega)]
        exact gd_take (by omega)
      refine AF.less (d' := 14) (bc' := 643 * l + 1288) (bs' := 37178 * l + 74368) ?_ (Nat.le_refl _) (by omega) (by omega)
      refine AF.iload dL_isKept_29 rfl ?_
      refine AF.if_le 66 dL_isKept_31 (by decide) (fun c1 => ?_) (fun c1 => ?_)
      · exact absurd c1 (nI_nle (by omega) (by omega))
      · refine AF.iinc dL_isKept_34 rfl (by decide) ?_
        rw [nI_dec]
        refine AF.aload_n dL_isKept_37 rfl ?_
        refine AF.lx (mc' := 1) (ms' := 6) (bc := 643 * l + 1287) (bs := 37178 * l + 74362) dL_isKept_38 kx_L_384 (W_undo hK ha (by omega)) hX rfl rfl (Nat.le_of_ble_eq_true rfl) (by decide) rfl (fun F bv hK hX => ?_)
        rw [hlen, Nat.add_sub_cancel]
        refine AF.iload dL_isKept_41 rfl ?_
        refine AF.icmp_ne 58 dL_isKept_43 (by decide) (fun c2 => ?_) (fun c2 => ?_)
        · exact absurd rfl c2
        · have hK9 := hK
          rw [hget9, hlen, Nat.add_sub_cancel] at hK9
          refine AF.aload_n dL_isKept_46 rfl ?_
          refine AF.ly (mc' := 642) (ms' := 37172) (bc := 643 * l + 645) (bs := 37178 * l + 37190) dL_isKept_47 kv_L_181 (L_sum_ok hK9 ha) hX rfl rfl (Nat.le_of_ble_eq_true rfl) (by decide) rfl (fun F bv hK hX => ?_)
          refine AF.aload_n dL_isKept_50 rfl ?_
          refine AF.iload dL_isKept_51 rfl ?_
          refine AF.laload (m - Y.2.2.length + l) dL_isKept_53 ((hX.at h1 (Nat.le_refl _) h3).trans hf) (pk_sub (by omega)) (by omega) (by decide) ?_
          rw [H2 _ (by omega)]
          refine AF.lcmp dL_isKept_54 ?_
          refine AF.if_eq 60 dL_isKept_55 (by decide) (fun c3 => ?_) (fun c3 => ?_)
          · refine AF.iinc dL_isKept_60 rfl (by decide) ?_
            rw [show nI (m - Y.2.2.length + (l + 1)) - nI 1 = nI (m - Y.2.2.length + l) from pk_sub (by omega), nI_m1]
            refine AF.goto 29 dL_isKept_63 (by decide) ?_
            exact ih F bv _ _ (hist (m - Y.2.2.length + l), Y'.2.1, Y'.2.2.take l) (by omega) (by omega) (by omega) hsv (by show Y'.2.2.take l = _; rw [hhs, List.take_take, Nat.min_eq_left (by omega)]) hK hX
          · exact absurd lcmp_self c3
  refine AC.of [some (.ref c), some (.ref (c + 131)), some (.int (nI m)), none, none, none] rfl (by decide) (Nat.le_of_ble_eq_true rfl) rfl ?_
  have hX : XF c bv0 bv0 F0 F0 := XF.rf
  have hK := hK0
  refine AF.aload_n dL_isKept_0 rfl ?_
  refine AF.lv (mc' := 0) (ms' := 0) (bc := 5789) (bs := 334614) dL_isKept_1 kv_L_381 (Y_save hK ha) hK.c0.choose_spec rfl hX rfl rfl (Nat.le_of_ble_eq_true rfl) (by decide) rfl (fun F bv hK hX => ?_)
  refine AF.istore_n dL_isKept_4 (by decide) ?_
  refine AF.bipush (nI 8) dL_isKept_5 (by decide) ?_
  refine AF.iload_n dL_isKept_7 rfl ?_
  refine AF.min dL_isKept_8 km_L_339 (Nat.le_of_ble_eq_true rfl) (by decide) ?_
  rw [nI_mn (by omega) (by omega), ← H3]
  refine AF.istore dL_isKept_11 (by decide) ?_
  refine AF.aload_n dL_isKept_13 rfl ?_
  refine AF.lv (mc' := 0) (ms' := 0) (bc := 5789) (bs := 334614) dL_isKept_14 kv_L_185 (Y_undoCount hK) hK.c0.choose_spec rfl hX rfl rfl (Nat.le_of_ble_eq_true rfl) (by decide) rfl (fun F bv hK hX => ?_)
  refine AF.iload dL_isKept_17 rfl ?_
  refine AF.icmp_eq 24 dL_isKept_19 (by decide) (fun c1 => ?_) (fun c1 => ?_)
  · refine AF.iload_n dL_isKept_24 rfl ?_
    refine AF.iconst (nI 1) dL_isKept_25 (by decide) ?_
    refine AF.isub dL_isKept_26 ?_
    refine AF.istore dL_isKept_27 (by decide) ?_
    have lp := lp Y.2.2.length F bv 5789 334614 (Y.1, some Y.1, Y.2.2) (Nat.le_refl _) (by omega) (by omega) rfl (List.take_length).symm hK hX
    rw [show m - Y.2.2.length + Y.2.2.length = m by omega] at lp
    exact lp
  · exact absurd rfl c1
end

