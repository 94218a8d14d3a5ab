/-! The text builder: a number more. -/
theorem nI_dec (n : Nat) : nI (n + 1) + Int32.ofInt (-1) = nI n := by
  rw [show Int32.ofInt (-1) = -1 by decide, ← Int32.sub_eq_add_neg]
  exact nI_pred n
theorem ng_10 : ∀ v, v < 100 → decide (-(nI v) ≤ (-10 : Int32)) = decide (10 ≤ v) := by decide +kernel
theorem ng_100 : ∀ v, v < 100 → ¬ (-(nI v) ≤ (-100 : Int32)) := by decide +kernel
theorem ng_h : ∀ v, v < 100 → (-100 : Int32) < -(nI v) := by decide +kernel
theorem ng_9 : ∀ v, v < 100 → decide ((-9 : Int32) ≤ -(nI v)) = decide (v ≤ 9) := by decide +kernel
theorem ng_ng : ∀ v, v < 100 → -(-(nI v)) = nI v := by decide +kernel
def ssz (v : Nat) : Nat := if 9 < v then 2 else 1
/-- a number's signs laid down before q -/
def pgN (a : Nat → Int32) (q v : Nat) : Nat → Int32 := if 9 < v then upd (upd a (q - 1) (nI (48 + v % 10))) (q - 2) (nI (48 + v / 10)) else upd a (q - 1) (nI (48 + v % 10))
section
variable {G : GA} {F : AH} {b bv cap : Nat} {T : List Int32}
set_option maxRecDepth 100000 in
theorem J6_stringSize_ok (v : Nat) (hv : v < 100) : AC G mJ6_stringSize_0f7a4 0 0 0 [.int (nI v)] F (AV (some (.int (nI (ssz v)))) F) := by
  refine AC.of [some (.int (nI v)), none, none, none] rfl (by decide) (Nat.le_of_ble_eq_true rfl) rfl ?_
  refine AF.iconst (1) dJ6_stringSize_0f7a4_0 (by decide) ?_
  refine AF.istore_n dJ6_stringSize_0f7a4_1 (by decide) ?_
  refine AF.iload_n dJ6_stringSize_0f7a4_2 rfl ?_
  refine AF.if_lt 11 dJ6_stringSize_0f7a4_3 (by decide) (fun c1 => ?_) (fun c1 => ?_)
  · exact absurd c1 (nI_pos (by omega))
  · refine AF.iconst (nI 0) dJ6_stringSize_0f7a4_6 (by decide) ?_
    refine AF.istore_n dJ6_stringSize_0f7a4_7 (by decide) ?_
    refine AF.iload_n dJ6_stringSize_0f7a4_8 rfl ?_
    refine AF.ineg dJ6_stringSize_0f7a4_9 ?_
    refine AF.istore_n dJ6_stringSize_0f7a4_10 (by decide) ?_
    refine AF.bipush (-10) dJ6_stringSize_0f7a4_11 (by decide) ?_
    refine AF.istore_n dJ6_stringSize_0f7a4_13 (by decide) ?_
    refine AF.iconst (nI 1) dJ6_stringSize_0f7a4_14 (by decide) ?_
    refine AF.istore_n dJ6_stringSize_0f7a4_15 (by decide) ?_
    show AF G mJ6_stringSize_0f7a4 0 0 0 _ _ 16 [some (.int (-(nI v))), some (.int (nI 0)), some (.int (-10)), some (.int (nI 1))] []
    refine AF.iload_n dJ6_stringSize_0f7a4_16 rfl ?_
    refine AF.bipush (nI 10) dJ6_stringSize_0f7a4_17 (by decide) ?_
    refine AF.icmp_ge 42 dJ6_stringSize_0f7a4_19 (by decide) (fun c2 => ?_) (fun c2 => ?_)
    · exact absurd c2 (by decide)
    · refine AF.iload_n dJ6_stringSize_0f7a4_22 rfl ?_
      refine AF.iload_n dJ6_stringSize_0f7a4_23 rfl ?_
      have h9 := ng_10 v hv
      refine AF.icmp_le 31 dJ6_stringSize_0f7a4_24 (by decide) (fun c3 => ?_) (fun c3 => ?_)
      · rw [decide_eq_true c3] at h9
        have h10 := of_decide_eq_true h9.symm
        refine AF.bipush (nI 10) dJ6_stringSize_0f7a4_31 (by decide) ?_
        refine AF.iload_n dJ6_stringSize_0f7a4_33 rfl ?_
        refine AF.imul dJ6_stringSize_0f7a4_34 ?_
        rw [show nI 10 * (-10) = -100 by decide]
        refine AF.istore_n dJ6_stringSize_0f7a4_35 (by decide) ?_
        refine AF.inc1 dJ6_stringSize_0f7a4_36 rfl (by decide) ?_
        refine AF.goto 16 dJ6_stringSize_0f7a4_39 (by decide) ?_
        show AF G mJ6_stringSize_0f7a4 0 0 0 _ _ 16 [some (.int (-(nI v))), some (.int (nI 0)), some (.int (-100)), some (.int (nI 2))] []
        refine AF.iload_n dJ6_stringSize_0f7a4_16 rfl ?_
        refine AF.bipush (nI 10) dJ6_stringSize_0f7a4_17 (by decide) ?_
        refine AF.icmp_ge 42 dJ6_stringSize_0f7a4_19 (by decide) (fun c4 => ?_) (fun c4 => ?_)
        · exact absurd c4 (by decide)
        · refine AF.iload_n dJ6_stringSize_0f7a4_22 rfl ?_
          refine AF.iload_n dJ6_stringSize_0f7a4_23 rfl ?_
          refine AF.icmp_le 31 dJ6_stringSize_0f7a4_24 (by decide) (fun c5 => ?_) (fun c5 => ?_)
          · exact absurd c5 (ng_100 v hv)
          · refine AF.iload_n dJ6_stringSize_0f7a4_27 rfl ?_
            refine AF.iload_n dJ6_stringSize_0f7a4_28 rfl ?_
            refine AF.iadd dJ6_stringSize_0f7a4_29 ?_
            rw [nI_add]
            refine AF.ireturn dJ6_stringSize_0f7a4_30 rfl ⟨?_, rfl⟩
            unfold ssz
            rw [if_pos (by omega)]
      · rw [decide_eq_false c3] at h9
        have h10 := of_decide_eq_false h9.symm
        refine AF.iload_n dJ6_stringSize_0f7a4_27 rfl ?_
        refine AF.iload_n dJ6_stringSize_0f7a4_28 rfl ?_
        refine AF.iadd dJ6_stringSize_0f7a4_29 ?_
        rw [nI_add]
        refine AF.ireturn dJ6_stringSize_0f7a4_30 rfl ⟨?_, rfl⟩
        unfold ssz
        rw [if_neg (by omega)]
set_option maxRecDepth 100000 in
theorem J6_getChars_ok {F0 : AH} {a : Nat → Int32} (v p : Nat) (hv : v < 100) (h1 : F0.2 bv = some (.inl (gC G 5, cap, .inl a))) (hb : gN G ≤ bv) (hp : p + ssz v ≤ cap) (hc : cap < 1000) : AC G mJ6_getChars_ba4f3 0 0 0 [.int (nI v), .int (nI (p + ssz v)), .ref bv] F0 (fun r F' => r = .inl (some (.int (nI p))) ∧ F'.1 = F0.1 ∧ F'.2 bv = some (.inl (gC G 5, cap, .inl (pgN a (p + ssz v) v))) ∧ ∀ x, ¬ x = bv → F'.2 x = F0.2 x) := by
  refine AC.of [some (.int (nI v)), some (.int (nI (p + ssz v))), some (.ref bv), none, none, none, none] rfl (by decide) (Nat.le_of_ble_eq_true rfl) rfl (AF.ok fun hG => ?_)
  have hD := hG.2.2.2.2.2.2.1.2.2.2.2.2.2.2.2
  have hs1 : ssz v = 1 ∨ ssz v = 2 := by unfold ssz; split <;> simp
  have n1 := nar_b (48 + v % 10) (by omega)
  have n2 := nar_b (48 + v / 10) (by omega)
  have hz : F0.1 = F0.1 := rfl
  have hmk : ∀ x, ¬ x = bv → F0.2 x = F0.2 x := fun _ _ => rfl
  refine AF.iload_n dJ6_getChars_ba4f3_0 rfl ?_
  refine AF.istore dJ6_getChars_ba4f3_1 (by decide) ?_
  refine AF.iload_n dJ6_getChars_ba4f3_3 rfl ?_
  refine AF.if_ge 11 dJ6_getChars_ba4f3_4 (by decide) (fun c1 => ?_) (fun c1 => ?_)
  · refine AF.iconst (0) dJ6_getChars_ba4f3_11 (by decide) ?_
    refine AF.istore dJ6_getChars_ba4f3_12 (by decide) ?_
    refine AF.iload dJ6_getChars_ba4f3_14 rfl ?_
    refine AF.if_ne 22 dJ6_getChars_ba4f3_16 (by decide) (fun c2 => ?_) (fun c2 => ?_)
    · exact absurd rfl c2
    · refine AF.iload_n dJ6_getChars_ba4f3_19 rfl ?_
      refine AF.ineg dJ6_getChars_ba4f3_20 ?_
      refine AF.istore_n dJ6_getChars_ba4f3_21 (by decide) ?_
      refine AF.iload_n dJ6_getChars_ba4f3_22 rfl ?_
      refine AF.bipush (-100) dJ6_getChars_ba4f3_23 (by decide) ?_
      refine AF.icmp_gt 72 dJ6_getChars_ba4f3_25 (by decide) (fun c3 => ?_) (fun c3 => ?_)
      · refine AF.aload_n dJ6_getChars_ba4f3_72 rfl ?_
        refine AF.iinc dJ6_getChars_ba4f3_73 rfl (by decide) ?_
        rw [show p + ssz v = (p + ssz v - 1) + 1 by omega, nI_dec]
        refine AF.iload dJ6_getChars_ba4f3_76 rfl ?_
        refine AF.getstatic dJ6_getChars_ba4f3_78 jf_J6_83 hD.1.1 ?_
        refine AF.iload_n dJ6_getChars_ba4f3_81 rfl ?_
        refine AF.ineg dJ6_getChars_ba4f3_82 ?_
        rw [ng_ng v hv]
        refine AF.baloadT v dJ6_getChars_ba4f3_83 hD.1.2 rfl (by omega) (by decide) rfl ?_
        refine AF.bastoreF (_) dJ6_getChars_ba4f3_84 h1 (by omega) rfl (by omega) (by omega) ?_
        intro F e9 h9 o9
        replace h1 := h9
        replace hmk := fun q hq => (o9 q (by omega)).trans (hmk q hq)
        replace hz := e9.trans hz
        clear e9 h9 o9
        refine AF.iload_n dJ6_getChars_ba4f3_85 rfl ?_
        refine AF.bipush (-9) dJ6_getChars_ba4f3_86 (by decide) ?_
        rw [n1] at h1
        have h9 := ng_9 v hv
        refine AF.icmp_ge 104 dJ6_getChars_ba4f3_88 (by decide) (fun c4 => ?_) (fun c4 => ?_)
        · rw [decide_eq_true c4] at h9
          have h10 := of_decide_eq_true h9.symm
          have e8 : ssz v = 1 := if_neg (by omega)
          refine AF.iload dJ6_getChars_ba4f3_104 rfl ?_
          refine AF.if_eq 118 dJ6_getChars_ba4f3_106 (by decide) (fun c5 => ?_) (fun c5 => ?_)
          · refine AF.iload dJ6_getChars_ba4f3_118 rfl ?_
            refine AF.ireturn dJ6_getChars_ba4f3_120 rfl ⟨by rw [e8]; rfl, hz, ?_, hmk⟩
            unfold pgN
            rw [if_neg (by omega)]
            exact h1
          · exact absurd rfl c5
        · rw [decide_eq_false c4] at h9
          have h10 := of_decide_eq_false h9.symm
          have e8 : ssz v = 2 := if_pos (by omega)
          refine AF.aload_n dJ6_getChars_ba4f3_91 rfl ?_
          refine AF.iinc dJ6_getChars_ba4f3_92 rfl (by decide) ?_
          rw [show p + ssz v - 1 = (p + ssz v - 2) + 1 by omega, nI_dec]
          refine AF.iload dJ6_getChars_ba4f3_95 rfl ?_
          refine AF.getstatic dJ6_getChars_ba4f3_97 jf_J6_87 hD.2.1 ?_
          refine AF.iload_n dJ6_getChars_ba4f3_100 rfl ?_
          refine AF.ineg dJ6_getChars_ba4f3_101 ?_
          rw [ng_ng v hv]
          refine AF.baloadT v dJ6_getChars_ba4f3_102 hD.2.2 rfl (by omega) (by decide) rfl ?_
          refine AF.bastoreF (_) dJ6_getChars_ba4f3_103 h1 (by omega) rfl (by omega) (by omega) ?_
          intro F e9 h9 o9
          replace h1 := h9
          replace hmk := fun q hq => (o9 q (by omega)).trans (hmk q hq)
          replace hz := e9.trans hz
          clear e9 h9 o9
          refine AF.iload dJ6_getChars_ba4f3_104 rfl ?_
          rw [n2] at h1
          refine AF.if_eq 118 dJ6_getChars_ba4f3_106 (by decide) (fun c5 => ?_) (fun c5 => ?_)
          · refine AF.iload dJ6_getChars_ba4f3_118 rfl ?_
            refine AF.ireturn dJ6_getChars_ba4f3_120 rfl ⟨by rw [e8]; rfl, hz, ?_, hmk⟩
            unfold pgN
            rw [if_pos (by omega)]
            rw [show p + ssz v - 2 + 1 + 1 - 1 = p + ssz v - 1 by omega, show p + ssz v - 2 + 1 + 1 - 2 = p + ssz v - 2 by omega]
            exact h1
          · exact absurd rfl c5
      · exact absurd (ng_h v hv) c3
  · exact absurd (Int32.not_le.mp c1) (nI_pos (by omega))
end

