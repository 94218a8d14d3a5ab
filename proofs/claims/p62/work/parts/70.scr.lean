/-! The script: the input buffer and the reading of its commands. -/
def TS0 (G : GA) (F : AH) (b n pl cc cm nc : Nat) (tf nf : Nat → Int32) : Prop := F.2 b = some (.inr (3, [.ref (b + 1), .int (nI n), .int (nI pl), .int (nI cc), .ref (gk G (5 + cm)), .ref (b + 2), .int (nI nc)])) ∧ F.2 (b + 1) = some (.inl (gC G 2, 60, .inl tf)) ∧ F.2 (b + 2) = some (.inl (gC G 0, 4, .inl nf))
def TSR (T ns : List Int32) (tf nf : Nat → Int32) : Prop := (T.length ≤ 60 ∧ ∀ i, i < T.length → tf i = T.getD i 0) ∧ ns.length ≤ 4 ∧ ∀ i, i < ns.length → nf i = ns.getD i 0
def TS (G : GA) (F : AH) (b : Nat) (T : List Int32) (pl cc cm : Nat) (ns : List Int32) : Prop := ∃ tf nf, TS0 G F b T.length pl cc cm ns.length tf nf ∧ TSR T ns tf nf
theorem TS.kept {G : GA} {F F' : AH} {b pl cc cm : Nat} {T ns : List Int32} (h : TS G F b T pl cc cm ns) (e : ∀ q, b ≤ q → q < b + 3 → F'.2 q = F.2 q) : TS G F' b T pl cc cm ns := by
  obtain ⟨tf, nf, ⟨h0, h1, h2⟩, hr⟩ := h
  exact ⟨tf, nf, ⟨(e b (by omega) (by omega)).trans h0, (e (b + 1) (by omega) (by omega)).trans h1, (e (b + 2) (by omega) (by omega)).trans h2⟩, hr⟩
theorem TS.fr {G : GA} {F F' : AH} {b pl cc cm lo hi : Nat} {T ns : List Int32} (h : TS G F b T pl cc cm ns) (q : Fr lo hi F F') (d : b + 3 ≤ lo ∨ hi ≤ b) : TS G F' b T pl cc cm ns := h.kept (fun x h1 h2 => q.2 x (by omega))
def TW (G : GA) (b : Nat) (T : List Int32) (pl cc cm : Nat) (ns : List Int32) (v : Option Value) (F0 : AH) : AR → AH → Prop := fun r F' => r = .inl v ∧ TS G F' b T pl cc cm ns ∧ Fr b (b + 3) F0 F'
section
variable {G : GA} {F : AH} {b pl cc cm : Nat} {T ns : List Int32}
set_option maxRecDepth 100000 in
theorem X6_isFull_ok (hS : TS G F b T pl cc cm ns) : AC G mX6_isFull 0 0 0 [.ref b] F (AV (some (.int (bI (decide (60 ≤ T.length))))) F) := by
  obtain ⟨tf, nf, ⟨h0, h1, h2⟩, hT, hN⟩ := hS
  have h60 := hT.1
  refine AC.of [some (.ref b)] rfl (by decide) (Nat.le_of_ble_eq_true rfl) rfl ?_
  refine AF.aload_n dX6_isFull_0 rfl ?_
  refine AF.getfield dX6_isFull_1 fl_X6_15 (by assumption) rfl ?_
  refine AF.bipush (nI 60) dX6_isFull_4 (by decide) ?_
  refine AF.icmp_lt 13 dX6_isFull_6 (by decide) (fun c1 => ?_) (fun c1 => ?_)
  · rw [nI_ltI (by omega) (by omega)] at c1
    refine AF.iconst (0) dX6_isFull_13 (by decide) ?_
    exact AF.zreturn dX6_isFull_14 rfl rfl ⟨by rw [decide_eq_false (by omega)]; rfl, rfl⟩
  · rw [nI_ltI (by omega) (by omega)] at c1
    refine AF.iconst (1) dX6_isFull_9 (by decide) ?_
    refine AF.goto 14 dX6_isFull_10 (by decide) ?_
    exact AF.zreturn dX6_isFull_14 rfl rfl ⟨by rw [decide_eq_true (by omega)]; rfl, rfl⟩
set_option maxRecDepth 100000 in
theorem X6_append_ok (hS : TS G F b T pl cc cm ns) (ha : gN G ≤ b) (hl : T.length < 60) (c : Int32) (hc : vp_nar .char c = c) : AC G mX6_append 0 0 0 [.ref b, .int c] F (TW G b (T ++ [c]) pl cc cm ns (some (.int (nI (T.length + 1)))) F) := by
  obtain ⟨tf, nf, ⟨h0, h1, h2⟩, hT, hN⟩ := hS
  refine AC.of [some (.ref b), some (.int c)] rfl (by decide) (Nat.le_of_ble_eq_true rfl) rfl ?_
  have hfr : Fr b (b + 3) F F := Fr.rf
  have e5 : (T ++ [c]).length = T.length + 1 := by simp
  refine AF.aload_n dX6_append_0 rfl ?_
  refine AF.getfield dX6_append_1 fl_X6_9 (by assumption) rfl ?_
  refine AF.aload_n dX6_append_4 rfl ?_
  refine AF.getfield dX6_append_5 fl_X6_15 (by assumption) rfl ?_
  refine AF.iload_n dX6_append_8 rfl ?_
  refine AF.castoreF (_) dX6_append_9 h1 (by omega) rfl (by omega) (by decide) ?_
  intro F e9 h9 o9
  replace h0 := (o9 (b) (by omega)).trans h0
  replace h2 := (o9 (b + 2) (by omega)).trans h2
  replace h1 := h9
  replace hfr := hfr.step e9 (by omega) (by omega) o9
  clear e9 h9 o9
  refine AF.aload_n dX6_append_10 rfl ?_
  refine AF.dup dX6_append_11 rfl ?_
  refine AF.getfield dX6_append_12 fl_X6_15 (by assumption) rfl ?_
  refine AF.iconst (nI 1) dX6_append_15 (by decide) ?_
  refine AF.iadd dX6_append_16 ?_
  rw [nI_add]
  rw [hc] at h1
  rw [← e5]
  refine AF.putfieldF dX6_append_17 fp_X6_15 h0 (by omega) (Nat.le_of_ble_eq_true rfl) rfl rfl (Or.inr fq_3_1) ?_
  intro F e9 h9 o9
  replace h1 := (o9 (b + 1) (by omega)).trans h1
  replace h2 := (o9 (b + 2) (by omega)).trans h2
  replace h0 := h9
  replace hfr := hfr.step e9 (by omega) (by omega) o9
  clear e9 h9 o9
  refine AF.aload_n dX6_append_20 rfl ?_
  refine AF.getfield dX6_append_21 fl_X6_15 (by assumption) rfl ?_
  refine AF.ireturn dX6_append_24 rfl ⟨rfl, ⟨_, nf, ⟨h0, h1, h2⟩, ⟨by rw [e5]; omega, fun i hi => ?_⟩, hN⟩, hfr⟩
  rw [e5] at hi
  rw [gd_app]
  by_cases e : i = T.length
  · rw [if_pos e, e, upd_s]
  · rw [if_neg e, upd_n e]; exact hT.2 i (by omega)
set_option maxRecDepth 100000 in
theorem X6_takeCharacter_ok (hS : TS G F b T pl cc cm ns) (ha : gN G ≤ b) (hp : pl ≤ T.length) (c : Int32) (hc : ¬ c = -1) : AC G mX6_takeCharacter 0 0 0 [.ref b, .int c] F (TW G b T (chR T c (true, pl, ns)).2.1 cc cm ns (some (.int (bI (chR T c (true, pl, ns)).1))) F) := by
  have hS0 := hS
  obtain ⟨tf, nf, ⟨h0, h1, h2⟩, hT, hN⟩ := hS
  have h60 := hT.1
  refine AC.of [some (.ref b), some (.int c)] rfl (by decide) (Nat.le_of_ble_eq_true rfl) rfl ?_
  have hfr : Fr b (b + 3) F F := Fr.rf
  refine AF.aload_n dX6_takeCharacter_0 rfl ?_
  refine AF.getfield dX6_takeCharacter_1 fl_X6_19 (by assumption) rfl ?_
  refine AF.aload_n dX6_takeCharacter_4 rfl ?_
  refine AF.getfield dX6_takeCharacter_5 fl_X6_15 (by assumption) rfl ?_
  refine AF.icmp_ge 24 dX6_takeCharacter_8 (by decide) (fun hb => ?_) (fun hb => ?_)
  · rw [nI_leI (by omega) (by omega)] at hb
    have e9 : chR T c (true, pl, ns) = (false, pl, ns) := if_neg (fun q => by have := hereT_lt (T := T) (p := pl) (by rw [q.2]; exact hc); omega)
    rw [e9]
    refine AF.iconst (0) dX6_takeCharacter_24 (by decide) ?_
    exact AF.zreturn dX6_takeCharacter_25 rfl rfl ⟨rfl, hS0, hfr⟩
  · rw [nI_leI (by omega) (by omega)] at hb
    refine AF.aload_n dX6_takeCharacter_11 rfl ?_
    refine AF.getfield dX6_takeCharacter_12 fl_X6_9 (by assumption) rfl ?_
    refine AF.aload_n dX6_takeCharacter_15 rfl ?_
    refine AF.getfield dX6_takeCharacter_16 fl_X6_19 (by assumption) rfl ?_
    refine AF.caload (_) dX6_takeCharacter_19 (by assumption) rfl (by omega) (by decide) ?_
    rw [hT.2 pl (by omega), ← hereT_in (T := T) (p := pl) (by omega)]
    refine AF.iload_n dX6_takeCharacter_20 rfl ?_
    refine AF.icmp_eq 26 dX6_takeCharacter_21 (by decide) (fun hq => ?_) (fun hq => ?_)
    · have e9 : chR T c (true, pl, ns) = (true, pl + 1, ns) := if_pos ⟨rfl, hq⟩
      rw [e9]
      refine AF.aload_n dX6_takeCharacter_26 rfl ?_
      refine AF.dup dX6_takeCharacter_27 rfl ?_
      refine AF.getfield dX6_takeCharacter_28 fl_X6_19 (by assumption) rfl ?_
      refine AF.iconst (nI 1) dX6_takeCharacter_31 (by decide) ?_
      refine AF.iadd dX6_takeCharacter_32 ?_
      rw [nI_add]
      refine AF.putfieldF dX6_takeCharacter_33 fp_X6_19 h0 (by omega) (Nat.le_of_ble_eq_true rfl) rfl rfl (Or.inr fq_3_2) ?_
      intro F e9 h9 o9
      replace h1 := (o9 (b + 1) (by omega)).trans h1
      replace h2 := (o9 (b + 2) (by omega)).trans h2
      replace h0 := h9
      replace hfr := hfr.step e9 (by omega) (by omega) o9
      clear e9 h9 o9
      refine AF.iconst (1) dX6_takeCharacter_36 (by decide) ?_
      exact AF.zreturn dX6_takeCharacter_37 rfl rfl ⟨rfl, ⟨tf, nf, ⟨h0, h1, h2⟩, hT, hN⟩, hfr⟩
    · have e9 : chR T c (true, pl, ns) = (false, pl, ns) := if_neg (fun q => hq q.2)
      rw [e9]
      refine AF.iconst (0) dX6_takeCharacter_24 (by decide) ?_
      exact AF.zreturn dX6_takeCharacter_25 rfl rfl ⟨rfl, hS0, hfr⟩
set_option maxRecDepth 100000 in
theorem X6_skipSemicolon_ok (hS : TS G F b T pl cc cm ns) (ha : gN G ≤ b) (hp : pl ≤ T.length) : AC G mX6_skipSemicolon 1 0 0 [.ref b] F (TW G b T (chR T 59 (true, pl, ns)).2.1 cc cm ns (some (.int (bI (chR T 59 (true, pl, ns)).1))) F) := by
  have hC := X6_takeCharacter_ok hS ha hp 59 (by decide)
  obtain ⟨tf, nf, ⟨h0, h1, h2⟩, hT, hN⟩ := hS
  refine AC.of [some (.ref b)] rfl (by decide) (Nat.le_of_ble_eq_true rfl) rfl ?_
  refine AF.aload_n dX6_skipSemicolon_0 rfl ?_
  refine AF.bipush (59) dX6_skipSemicolon_1 (by decide) ?_
  refine AF.vw dX6_skipSemicolon_3 kv_X6_48 (hC) (by assumption) rfl rfl rfl (Nat.le_of_ble_eq_true rfl) (by decide) rfl (fun E F9 q => nomatch q.1) (fun v F q => ?_)
  obtain ⟨q, hS2, q2⟩ := q
  cases q
  exact AF.zreturn dX6_skipSemicolon_6 rfl (bI_nar _) ⟨rfl, hS2, q2⟩
set_option maxRecDepth 100000 in
theorem X6_keepNumber_ok (hS : TS G F b T pl cc cm ns) (ha : gN G ≤ b) (hl : ns.length < 4) (x : Int32) : AC G mX6_keepNumber 0 0 0 [.ref b, .int x] F (TW G b T pl cc cm (ns ++ [x]) none F) := by
  obtain ⟨tf, nf, ⟨h0, h1, h2⟩, hT, hN⟩ := hS
  refine AC.of [some (.ref b), some (.int x)] rfl (by decide) (Nat.le_of_ble_eq_true rfl) rfl ?_
  have hfr : Fr b (b + 3) F F := Fr.rf
  have e5 : (ns ++ [x]).length = ns.length + 1 := by simp
  refine AF.aload_n dX6_keepNumber_0 rfl ?_
  refine AF.getfield dX6_keepNumber_1 fl_X6_38 (by assumption) rfl ?_
  refine AF.iconst (nI 4) dX6_keepNumber_4 (by decide) ?_
  refine AF.icmp_ge 28 dX6_keepNumber_5 (by decide) (fun hb => ?_) (fun hb => ?_)
  · rw [nI_leI (by omega) (by omega)] at hb
    omega
  · refine AF.aload_n dX6_keepNumber_8 rfl ?_
    refine AF.getfield dX6_keepNumber_9 fl_X6_34 (by assumption) rfl ?_
    refine AF.aload_n dX6_keepNumber_12 rfl ?_
    refine AF.getfield dX6_keepNumber_13 fl_X6_38 (by assumption) rfl ?_
    refine AF.iload_n dX6_keepNumber_16 rfl ?_
    refine AF.iastoreF (_) dX6_keepNumber_17 h2 (by omega) rfl (by omega) (by decide) ?_
    intro F e9 h9 o9
    replace h0 := (o9 (b) (by omega)).trans h0
    replace h1 := (o9 (b + 1) (by omega)).trans h1
    replace h2 := h9
    replace hfr := hfr.step e9 (by omega) (by omega) o9
    clear e9 h9 o9
    refine AF.aload_n dX6_keepNumber_18 rfl ?_
    refine AF.dup dX6_keepNumber_19 rfl ?_
    refine AF.getfield dX6_keepNumber_20 fl_X6_38 (by assumption) rfl ?_
    refine AF.iconst (nI 1) dX6_keepNumber_23 (by decide) ?_
    refine AF.iadd dX6_keepNumber_24 ?_
    rw [nI_add]
    rw [← e5]
    refine AF.putfieldF dX6_keepNumber_25 fp_X6_38 h0 (by omega) (Nat.le_of_ble_eq_true rfl) rfl rfl (Or.inr fq_3_6) ?_
    intro F e9 h9 o9
    replace h1 := (o9 (b + 1) (by omega)).trans h1
    replace h2 := (o9 (b + 2) (by omega)).trans h2
    replace h0 := h9
    replace hfr := hfr.step e9 (by omega) (by omega) o9
    clear e9 h9 o9
    refine AF.vreturn dX6_keepNumber_28 rfl ⟨rfl, ⟨tf, _, ⟨h0, h1, h2⟩, hT, ⟨by rw [e5]; omega, fun i hi => ?_⟩⟩, hfr⟩
    rw [e5] at hi
    rw [gd_app]
    by_cases e : i = ns.length
    · rw [if_pos e, e, upd_s]
    · rw [if_neg e, upd_n e]; exact hN.2 i (by omega)
set_option maxRecDepth 100000 in
theorem X6_standsAtDigit_ok (hS : TS G F b T pl cc cm ns) (hp : pl ≤ T.length) : AC G mX6_standsAtDigit 0 0 0 [.ref b] F (AV (some (.int (bI (dgt (hereT T pl))))) F) := by
  obtain ⟨tf, nf, ⟨h0, h1, h2⟩, hT, hN⟩ := hS
  have h60 := hT.1
  refine AC.of [some (.ref b)] rfl (by decide) (Nat.le_of_ble_eq_true rfl) rfl ?_
  refine AF.aload_n dX6_standsAtDigit_0 rfl ?_
  refine AF.getfield dX6_standsAtDigit_1 fl_X6_19 (by assumption) rfl ?_
  refine AF.aload_n dX6_standsAtDigit_4 rfl ?_
  refine AF.getfield dX6_standsAtDigit_5 fl_X6_15 (by assumption) rfl ?_
  refine AF.icmp_ge 43 dX6_standsAtDigit_8 (by decide) (fun hb => ?_) (fun hb => ?_)
  · rw [nI_leI (by omega) (by omega)] at hb
    refine AF.iconst (0) dX6_standsAtDigit_43 (by decide) ?_
    refine AF.zreturn dX6_standsAtDigit_44 rfl rfl ⟨?_, rfl⟩
    rw [show dgt (hereT T pl) = false from by unfold hereT; rw [if_neg (by omega)]; decide]; rfl
  · rw [nI_leI (by omega) (by omega)] at hb
    refine AF.aload_n dX6_standsAtDigit_11 rfl ?_
    refine AF.getfield dX6_standsAtDigit_12 fl_X6_9 (by assumption) rfl ?_
    refine AF.aload_n dX6_standsAtDigit_15 rfl ?_
    refine AF.getfield dX6_standsAtDigit_16 fl_X6_19 (by assumption) rfl ?_
    refine AF.caload (_) dX6_standsAtDigit_19 (by assumption) rfl (by omega) (by decide) ?_
    rw [hT.2 pl (by omega), ← hereT_in (T := T) (p := pl) (by omega)]
    refine AF.bipush (48) dX6_standsAtDigit_20 (by decide) ?_
    unfold dgt inB
    refine AF.icmp_lt 43 dX6_standsAtDigit_22 (by decide) (fun c1 => ?_) (fun c1 => ?_)
    · refine AF.iconst (0) dX6_standsAtDigit_43 (by decide) ?_
      exact AF.zreturn dX6_standsAtDigit_44 rfl rfl ⟨by rw [decide_eq_false (Int32.not_le.mpr c1)]; rfl, rfl⟩
    · refine AF.aload_n dX6_standsAtDigit_25 rfl ?_
      refine AF.getfield dX6_standsAtDigit_26 fl_X6_9 (by assumption) rfl ?_
      refine AF.aload_n dX6_standsAtDigit_29 rfl ?_
      refine AF.getfield dX6_standsAtDigit_30 fl_X6_19 (by assumption) rfl ?_
      refine AF.caload (_) dX6_standsAtDigit_33 (by assumption) rfl (by omega) (by decide) ?_
      rw [hT.2 pl (by omega), ← hereT_in (T := T) (p := pl) (by omega)]
      refine AF.bipush (57) dX6_standsAtDigit_34 (by decide) ?_
      refine AF.icmp_gt 43 dX6_standsAtDigit_36 (by decide) (fun c2 => ?_) (fun c2 => ?_)
      · refine AF.iconst (0) dX6_standsAtDigit_43 (by decide) ?_
        exact AF.zreturn dX6_standsAtDigit_44 rfl rfl ⟨by rw [decide_eq_false (Int32.not_le.mpr c2), Bool.and_false]; rfl, rfl⟩
      · refine AF.iconst (1) dX6_standsAtDigit_39 (by decide) ?_
        refine AF.goto 44 dX6_standsAtDigit_40 (by decide) ?_
        exact AF.zreturn dX6_standsAtDigit_44 rfl rfl ⟨by rw [decide_eq_true (Int32.not_lt.mp c1), decide_eq_true (Int32.not_lt.mp c2)]; rfl, rfl⟩
set_option maxRecDepth 100000 in
set_option maxHeartbeats 4000000 in
theorem X6_takeNumber_ok {F0 : AH} (hS : TS G F0 b T pl cc cm ns) (ha : gN G ≤ b) (hp : pl ≤ T.length) (hl : ns.length < 4) (most : Nat) (hm : most ≤ 3) : AC G mX6_takeNumber 1 0 0 [.ref b, .int (nI most)] F0 (TW G b T (nuR T most (true, pl, ns)).2.1 cc cm (nuR T most (true, pl, ns)).2.2 (some (.int (bI (nuR T most (true, pl, ns)).1))) F0) := by
  have h60 : T.length ≤ 60 := by obtain ⟨tf, nf, -, hT, -⟩ := hS; exact hT.1
  refine AC.of [some (.ref b), some (.int (nI most)), none, none] rfl (by decide) (Nat.le_of_ble_eq_true rfl) rfl ?_
  have exq : ∀ i n F1, i ≤ most → TS G F1 b T (pl + i) cc cm ns → dgc T most pl = i → nvl T most pl 0 = n → Fr b (b + 3) F0 F1 → AF G mX6_takeNumber 1 0 0 (TW G b T (nuR T most (true, pl, ns)).2.1 cc cm (nuR T most (true, pl, ns)).2.2 (some (.int (bI (nuR T most (true, pl, ns)).1))) F0) F1 50 [some (.ref b), some (.int (nI most)), some (.int (nI i)), some (.int (nI n))] [] := by
    intro i n F1 hi hS hd hn hfr
    have hS0 := hS
    have hK := X6_keepNumber_ok hS ha hl (nI n)
    obtain ⟨tf, nf, ⟨h0, h1, h2⟩, hT, hN⟩ := hS
    refine AF.iload_n dX6_takeNumber_50 rfl ?_
    by_cases hz : i = 0
    · subst hz
      have e9 : nuR T most (true, pl, ns) = (false, pl, ns) := if_neg (fun q => by have q2 : 0 < dgc T most pl := q.2; omega)
      rw [e9]
      refine AF.if_ne 56 dX6_takeNumber_51 (by decide) (fun hb => ?_) (fun hb => ?_)
      · exact absurd rfl hb
      · refine AF.iconst (0) dX6_takeNumber_54 (by decide) ?_
        exact AF.zreturn dX6_takeNumber_55 rfl rfl ⟨rfl, hS0, hfr⟩
    · have e9 : nuR T most (true, pl, ns) = (true, pl + i, ns ++ [nI n]) := by
        unfold nuR; rw [if_pos ⟨rfl, by show 0 < dgc T most pl; omega⟩]; show (true, pl + dgc T most pl, ns ++ [nI (nvl T most pl 0)]) = _; rw [hd, hn]
      rw [e9]
      refine AF.if_ne 56 dX6_takeNumber_51 (by decide) (fun hb => ?_) (fun hb => ?_)
      · refine AF.aload_n dX6_takeNumber_56 rfl ?_
        refine AF.iload_n dX6_takeNumber_57 rfl ?_
        refine AF.vw dX6_takeNumber_58 kv_X6_92 (hK) (by assumption) rfl rfl rfl (Nat.le_of_ble_eq_true rfl) (by decide) rfl (fun E F9 q => nomatch q.1) (fun v F q => ?_)
        obtain ⟨q, hS2, q2⟩ := q
        cases q
        refine AF.iconst (1) dX6_takeNumber_61 (by decide) ?_
        exact AF.zreturn dX6_takeNumber_62 rfl rfl ⟨rfl, hS2, hfr.trans q2 (Nat.le_refl _) (Nat.le_refl _)⟩
      · exact absurd hb (nI_ne0 (by omega) (by omega))
  have loop : ∀ r i n F1, i + r = most → TS G F1 b T (pl + i) cc cm ns → pl + i ≤ T.length → dgc T most pl = i + dgc T r (pl + i) → nvl T most pl 0 = nvl T r (pl + i) n → Fr b (b + 3) F0 F1 → AF G mX6_takeNumber 1 0 0 (TW G b T (nuR T most (true, pl, ns)).2.1 cc cm (nuR T most (true, pl, ns)).2.2 (some (.int (bI (nuR T most (true, pl, ns)).1))) F0) F1 4 [some (.ref b), some (.int (nI most)), some (.int (nI i)), some (.int (nI n))] [] := by
    intro r
    induction r with
    | zero =>
      intro i n F1 hi hS hpi hd hn hfr
      refine AF.iload_n dX6_takeNumber_4 rfl ?_
      refine AF.iload_n dX6_takeNumber_5 rfl ?_
      refine AF.icmp_ge 50 dX6_takeNumber_6 (by decide) (fun hb => ?_) (fun hb => ?_)
      · exact exq i n F1 (by omega) hS hd hn hfr
      · exact absurd (by rw [nI_leI (by omega) (by omega)]; omega) hb
    | succ r ih =>
      intro i n F1 hi hS hpi hd hn hfr
      have hS0 := hS
      have hD := X6_standsAtDigit_ok hS hpi
      obtain ⟨tf, nf, ⟨h0, h1, h2⟩, hT, hN⟩ := hS
      simp only [dgc] at hd
      simp only [nvl] at hn
      refine AF.iload_n dX6_takeNumber_4 rfl ?_
      refine AF.iload_n dX6_takeNumber_5 rfl ?_
      refine AF.icmp_ge 50 dX6_takeNumber_6 (by decide) (fun hb => ?_) (fun hb => ?_)
      · rw [nI_leI (by omega) (by omega)] at hb
        omega
      · refine AF.aload_n dX6_takeNumber_9 rfl ?_
        refine AF.v1 dX6_takeNumber_10 kv_X6_89 (hD) (by assumption) rfl rfl rfl (Nat.le_of_ble_eq_true rfl) (by decide) rfl ?_
        refine AF.if_eq 50 dX6_takeNumber_13 (by decide) (fun hc => ?_) (fun hc => ?_)
        · have hc := bI_z hc
          rw [if_neg (by rw [hc]; decide)] at hd hn
          exact exq i n F1 (by omega) hS0 hd hn hfr
        · have hc := bI_n hc
          rw [if_pos hc] at hd hn
          obtain ⟨hlt, c, c1, c2, ec⟩ := dgt_here hc
          rw [ec, cl_nI (by omega)] at hn
          refine AF.bipush (nI 10) dX6_takeNumber_16 (by decide) ?_
          refine AF.iload_n dX6_takeNumber_18 rfl ?_
          refine AF.imul dX6_takeNumber_19 ?_
          rw [pk_mul]
          refine AF.aload_n dX6_takeNumber_20 rfl ?_
          refine AF.getfield dX6_takeNumber_21 fl_X6_9 (by assumption) rfl ?_
          refine AF.aload_n dX6_takeNumber_24 rfl ?_
          refine AF.getfield dX6_takeNumber_25 fl_X6_19 (by assumption) rfl ?_
          refine AF.caload (_) dX6_takeNumber_28 (by assumption) rfl (by omega) (by decide) ?_
          rw [hT.2 (pl + i) hlt, ← hereT_in hlt, ec]
          refine AF.bipush (nI 48) dX6_takeNumber_29 (by decide) ?_
          refine AF.isub dX6_takeNumber_31 ?_
          rw [pk_sub c1]
          refine AF.iadd dX6_takeNumber_32 ?_
          rw [nI_add]
          refine AF.istore_n dX6_takeNumber_33 (by decide) ?_
          refine AF.aload_n dX6_takeNumber_34 rfl ?_
          refine AF.dup dX6_takeNumber_35 rfl ?_
          refine AF.getfield dX6_takeNumber_36 fl_X6_19 (by assumption) rfl ?_
          refine AF.iconst (nI 1) dX6_takeNumber_39 (by decide) ?_
          refine AF.iadd dX6_takeNumber_40 ?_
          rw [nI_add]
          refine AF.putfieldF dX6_takeNumber_41 fp_X6_19 h0 (by omega) (Nat.le_of_ble_eq_true rfl) rfl rfl (Or.inr fq_3_2) ?_
          intro F e9 h9 o9
          replace h1 := (o9 (b + 1) (by omega)).trans h1
          replace h2 := (o9 (b + 2) (by omega)).trans h2
          replace h0 := h9
          replace hfr := hfr.step e9 (by omega) (by omega) o9
          clear e9 h9 o9
          refine AF.inc1 dX6_takeNumber_44 rfl (by decide) ?_
          refine AF.goto 4 dX6_takeNumber_47 (by decide) ?_
          exact ih (i + 1) _ F (by omega) ⟨tf, nf, ⟨h0, h1, h2⟩, hT, hN⟩ (by omega) (by rw [hd, show pl + i + 1 = pl + (i + 1) by omega]; omega) (by rw [hn, show pl + i + 1 = pl + (i + 1) by omega]) hfr
  refine AF.iconst (nI 0) dX6_takeNumber_0 (by decide) ?_
  refine AF.istore_n dX6_takeNumber_1 (by decide) ?_
  refine AF.iconst (nI 0) dX6_takeNumber_2 (by decide) ?_
  refine AF.istore_n dX6_takeNumber_3 (by decide) ?_
  exact loop most 0 0 F0 (by omega) hS hp (by rw [Nat.zero_add]; rfl) rfl Fr.rf
set_option maxRecDepth 100000 in
theorem X6_takeSign_ok {F0 : AH} (hS : TS G F0 b T pl cc cm ns) (ha : gN G ≤ b) (hp : pl ≤ T.length) (hl : ns.length < 4) : AC G mX6_takeSign 1 0 0 [.ref b] F0 (TW G b T (sgR T (true, pl, ns)).2.1 cc cm (sgR T (true, pl, ns)).2.2 (some (.int (bI (sgR T (true, pl, ns)).1))) F0) := by
  have hC := X6_takeCharacter_ok hS ha hp 43 (by decide)
  obtain ⟨tf, nf, ⟨h0, h1, h2⟩, hT, hN⟩ := hS
  refine AC.of [some (.ref b)] rfl (by decide) (Nat.le_of_ble_eq_true rfl) rfl ?_
  have hfr : Fr b (b + 3) F0 F0 := Fr.rf
  refine AF.aload_n dX6_takeSign_0 rfl ?_
  refine AF.bipush (43) dX6_takeSign_1 (by decide) ?_
  refine AF.vw dX6_takeSign_3 kv_X6_48 (hC) (by assumption) rfl rfl rfl (Nat.le_of_ble_eq_true rfl) (by decide) rfl (fun E F9 q => nomatch q.1) (fun v F q => ?_)
  obtain ⟨q, hS2, q2⟩ := q
  cases q
  by_cases e1 : hereT T pl = 43
  · have e9 : chR T 43 (true, pl, ns) = (true, pl + 1, ns) := if_pos ⟨rfl, e1⟩
    have e8 : sgR T (true, pl, ns) = (true, pl + 1, ns ++ [1]) := if_pos ⟨rfl, e1⟩
    rw [e8]
    rw [e9] at hS2 ⊢
    obtain ⟨tf, nf, ⟨h0, h1, h2⟩, hT, hN⟩ := id hS2
    refine AF.if_eq 16 dX6_takeSign_6 (by decide) (fun hb => ?_) (fun hb => ?_)
    · exact absurd (show bI true = 0 from hb) (by decide)
    · refine AF.aload_n dX6_takeSign_9 rfl ?_
      refine AF.iconst (1) dX6_takeSign_10 (by decide) ?_
      refine AF.vw dX6_takeSign_11 kv_X6_92 (X6_keepNumber_ok hS2 ha hl 1) (by assumption) rfl rfl rfl (Nat.le_of_ble_eq_true rfl) (by decide) rfl (fun E F9 q => nomatch q.1) (fun v F q => ?_)
      obtain ⟨q, hS3, q3⟩ := q
      cases q
      refine AF.iconst (1) dX6_takeSign_14 (by decide) ?_
      exact AF.zreturn dX6_takeSign_15 rfl rfl ⟨rfl, hS3, q2.trans q3 (Nat.le_refl _) (Nat.le_refl _)⟩
  · have e9 : chR T 43 (true, pl, ns) = (false, pl, ns) := if_neg (fun q => e1 q.2)
    rw [e9] at hS2 ⊢
    have hC2 := X6_takeCharacter_ok hS2 ha hp 45 (by decide)
    obtain ⟨tf, nf, ⟨h0, h1, h2⟩, hT, hN⟩ := hS2
    refine AF.if_eq 16 dX6_takeSign_6 (by decide) (fun hb => ?_) (fun hb => ?_)
    · refine AF.aload_n dX6_takeSign_16 rfl ?_
      refine AF.bipush (45) dX6_takeSign_17 (by decide) ?_
      refine AF.vw dX6_takeSign_19 kv_X6_48 (hC2) (by assumption) rfl rfl rfl (Nat.le_of_ble_eq_true rfl) (by decide) rfl (fun E F9 q => nomatch q.1) (fun v F q => ?_)
      obtain ⟨q, hS3, q3⟩ := q
      cases q
      by_cases e2 : hereT T pl = 45
      · have e9 : chR T 45 (true, pl, ns) = (true, pl + 1, ns) := if_pos ⟨rfl, e2⟩
        have e8 : sgR T (true, pl, ns) = (true, pl + 1, ns ++ [-1]) := by unfold sgR; rw [if_neg (fun q => e1 q.2), if_pos ⟨rfl, e2⟩]
        rw [e8]
        rw [e9] at hS3 ⊢
        obtain ⟨tf, nf, ⟨h0, h1, h2⟩, hT, hN⟩ := id hS3
        refine AF.if_eq 32 dX6_takeSign_22 (by decide) (fun hb2 => ?_) (fun hb2 => ?_)
        · exact absurd (show bI true = 0 from hb2) (by decide)
        · refine AF.aload_n dX6_takeSign_25 rfl ?_
          refine AF.iconst (-1) dX6_takeSign_26 (by decide) ?_
          refine AF.vw dX6_takeSign_27 kv_X6_92 (X6_keepNumber_ok hS3 ha hl (-1)) (by assumption) rfl rfl rfl (Nat.le_of_ble_eq_true rfl) (by decide) rfl (fun E F9 q => nomatch q.1) (fun v F q => ?_)
          obtain ⟨q, hS4, q4⟩ := q
          cases q
          refine AF.iconst (1) dX6_takeSign_30 (by decide) ?_
          exact AF.zreturn dX6_takeSign_31 rfl rfl ⟨rfl, hS4, (q2.trans q3 (Nat.le_refl _) (Nat.le_refl _)).trans q4 (Nat.le_refl _) (Nat.le_refl _)⟩
      · have e9 : chR T 45 (true, pl, ns) = (false, pl, ns) := if_neg (fun q => e2 q.2)
        have e8 : sgR T (true, pl, ns) = (false, pl, ns) := by unfold sgR; rw [if_neg (fun q => e1 q.2), if_neg (fun q => e2 q.2)]
        rw [e8]
        rw [e9] at hS3 ⊢
        refine AF.if_eq 32 dX6_takeSign_22 (by decide) (fun hb2 => ?_) (fun hb2 => ?_)
        · refine AF.iconst (0) dX6_takeSign_32 (by decide) ?_
          exact AF.zreturn dX6_takeSign_33 rfl rfl ⟨rfl, hS3, q2.trans q3 (Nat.le_refl _) (Nat.le_refl _)⟩
        · exact absurd rfl hb2
    · exact absurd rfl hb
set_option maxRecDepth 100000 in
theorem X6_takePart_ok (hS : TS G F b T pl cc cm ns) (ha : gN G ≤ b) (hp : pl ≤ T.length) (hl : ns.length < 4) (c : Int32) (hc : ¬ c = -1) : AC G mX6_takePart 2 0 0 [.ref b, .int c] F (TW G b T (paR T c (true, pl, ns)).2.1 cc cm (paR T c (true, pl, ns)).2.2 (some (.int (bI (paR T c (true, pl, ns)).1))) F) := by
  have hN3 := X6_takeNumber_ok hS ha hp hl 3 (by omega)
  have hN1 := X6_takeNumber_ok hS ha hp hl 1 (by omega)
  have hSg := X6_takeSign_ok hS ha hp hl
  have hCh := X6_takeCharacter_ok hS ha hp c hc
  obtain ⟨tf, nf, ⟨h0, h1, h2⟩, hT, hN⟩ := hS
  refine AC.of [some (.ref b), some (.int c)] rfl (by decide) (Nat.le_of_ble_eq_true rfl) rfl ?_
  unfold paR
  refine AF.iload_n dX6_takePart_0 rfl ?_
  refine AF.bipush (78) dX6_takePart_1 (by decide) ?_
  refine AF.icmp_ne 12 dX6_takePart_3 (by decide) (fun c1 => ?_) (fun c1 => ?_)
  · rw [if_neg (show ¬ c = 78 from c1)]
    refine AF.iload_n dX6_takePart_12 rfl ?_
    refine AF.bipush (68) dX6_takePart_13 (by decide) ?_
    refine AF.icmp_ne 24 dX6_takePart_15 (by decide) (fun c2 => ?_) (fun c2 => ?_)
    · rw [if_neg (show ¬ c = 68 from c2)]
      refine AF.iload_n dX6_takePart_24 rfl ?_
      refine AF.bipush (83) dX6_takePart_25 (by decide) ?_
      refine AF.icmp_ne 37 dX6_takePart_27 (by decide) (fun c3 => ?_) (fun c3 => ?_)
      · rw [if_neg (show ¬ c = 83 from c3)]
        refine AF.aload_n dX6_takePart_37 rfl ?_
        refine AF.iload_n dX6_takePart_38 rfl ?_
        refine AF.vw dX6_takePart_39 kv_X6_48 (hCh) (by assumption) rfl rfl rfl (Nat.le_of_ble_eq_true rfl) (by decide) rfl (fun E F9 q => nomatch q.1) (fun v F q => ?_)
        obtain ⟨q, hS2, q2⟩ := q
        cases q
        refine AF.zreturn dX6_takePart_42 rfl (bI_nar _) ⟨rfl, ?_, q2⟩
        rw [show (chR T c (true, pl, ns)).2.2 = ns from by unfold chR; split <;> rfl]
        exact hS2
      · rw [if_pos (show c = 83 from c3)]
        refine AF.aload_n dX6_takePart_30 rfl ?_
        refine AF.vw dX6_takePart_31 kv_X6_86 (hSg) (by assumption) rfl rfl rfl (Nat.le_of_ble_eq_true rfl) (by decide) rfl (fun E F9 q => nomatch q.1) (fun v F q => ?_)
        obtain ⟨q, hS2, q2⟩ := q
        cases q
        refine AF.goto 42 dX6_takePart_34 (by decide) ?_
        exact AF.zreturn dX6_takePart_42 rfl (bI_nar _) ⟨rfl, hS2, q2⟩
    · rw [if_pos (show c = 68 from c2)]
      refine AF.aload_n dX6_takePart_18 rfl ?_
      refine AF.iconst (nI 1) dX6_takePart_19 (by decide) ?_
      refine AF.vw dX6_takePart_20 kv_X6_82 (hN1) (by assumption) rfl rfl rfl (Nat.le_of_ble_eq_true rfl) (by decide) rfl (fun E F9 q => nomatch q.1) (fun v F q => ?_)
      obtain ⟨q, hS2, q2⟩ := q
      cases q
      exact AF.zreturn dX6_takePart_23 rfl (bI_nar _) ⟨rfl, hS2, q2⟩
  · rw [if_pos (show c = 78 from c1)]
    refine AF.aload_n dX6_takePart_6 rfl ?_
    refine AF.iconst (nI 3) dX6_takePart_7 (by decide) ?_
    refine AF.vw dX6_takePart_8 kv_X6_82 (hN3) (by assumption) rfl rfl rfl (Nat.le_of_ble_eq_true rfl) (by decide) rfl (fun E F9 q => nomatch q.1) (fun v F q => ?_)
    obtain ⟨q, hS2, q2⟩ := q
    cases q
    exact AF.zreturn dX6_takePart_11 rfl (bI_nar _) ⟨rfl, hS2, q2⟩
end

