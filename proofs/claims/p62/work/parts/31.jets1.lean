/-! Jets: the methods that read. -/
section
variable {G : GA} {F : AH} {a : Nat} {J : List Jt} {cap : Nat} {w : Int32}
set_option maxRecDepth 100000 in
theorem X3_sum_ok (hJ : JA G F a J cap w) : AC G mX3_sumOfOpenings 0 0 0 [.ref a] F (AV (some (.int (nI (dem J)))) F) := by
  obtain ⟨f, g, ⟨h0, h1, h2⟩, hn, hr⟩ := hJ
  refine AC.of [some (.ref a), none, none] rfl (by decide) (Nat.le_of_ble_eq_true rfl) rfl ?_
  have loop : ∀ k j, j + k = J.length → AF G mX3_sumOfOpenings 0 0 0 (AV (some (.int (nI (dem J)))) F) F 4 [some (.ref a), some (.int (nI (sumN (jo J) j))), some (.int (nI j))] [] := by
    intro k
    induction k with
    | zero =>
      intro j hj
      refine AF.iload_n dX3_sumOfOpenings_4 rfl ?_
      refine AF.aload_n dX3_sumOfOpenings_5 rfl ?_
      refine AF.getfield dX3_sumOfOpenings_6 fl_X3_18 (by assumption) rfl ?_
      refine AF.icmp_ge 27 dX3_sumOfOpenings_9 (by decide) (fun hb => ?_) (fun hb => ?_)
      · refine AF.iload_n dX3_sumOfOpenings_27 rfl ?_
        exact AF.ireturn dX3_sumOfOpenings_28 rfl ⟨by rw [show j = J.length by omega]; rfl, rfl⟩
      · exact absurd (by rw [nI_leI (by omega) (by omega)]; omega) hb
    | succ k ih =>
      intro j hj
      refine AF.iload_n dX3_sumOfOpenings_4 rfl ?_
      refine AF.aload_n dX3_sumOfOpenings_5 rfl ?_
      refine AF.getfield dX3_sumOfOpenings_6 fl_X3_18 (by assumption) rfl ?_
      refine AF.icmp_ge 27 dX3_sumOfOpenings_9 (by decide) (fun hb => ?_) (fun hb => ?_)
      · rw [nI_leI (by omega) (by omega)] at hb
        omega
      · refine AF.iload_n dX3_sumOfOpenings_12 rfl ?_
        refine AF.aload_n dX3_sumOfOpenings_13 rfl ?_
        refine AF.getfield dX3_sumOfOpenings_14 fl_X3_15 (by assumption) rfl ?_
        refine AF.iload_n dX3_sumOfOpenings_17 rfl ?_
        refine AF.iaload (_) dX3_sumOfOpenings_18 (by assumption) rfl (by omega) (by decide) ?_
        rw [(hr j (by omega)).2, ]
        refine AF.iadd dX3_sumOfOpenings_19 ?_
        rw [nI_add]
        refine AF.istore_n dX3_sumOfOpenings_20 (by decide) ?_
        refine AF.inc1 dX3_sumOfOpenings_21 rfl (by decide) ?_
        refine AF.goto 4 dX3_sumOfOpenings_24 (by decide) ?_
        exact ih (j + 1) (by omega)
  refine AF.iconst (0) dX3_sumOfOpenings_0 (by decide) ?_
  refine AF.istore_n dX3_sumOfOpenings_1 (by decide) ?_
  refine AF.iconst (0) dX3_sumOfOpenings_2 (by decide) ?_
  refine AF.istore_n dX3_sumOfOpenings_3 (by decide) ?_
  exact loop J.length 0 (by omega)
set_option maxRecDepth 100000 in
theorem X3_has_ok (hJ : JA G F a J cap w) (x : Int32) : AC G mX3_has 0 0 0 [.ref a, .int x] F (AV (some (.int (bI (decide (0 ≤ x) && decide (x < nI J.length))))) F) := by
  obtain ⟨f, g, ⟨h0, h1, h2⟩, hn, hr⟩ := hJ
  refine AC.of [some (.ref a), some (.int x)] rfl (by decide) (Nat.le_of_ble_eq_true rfl) rfl ?_
  refine AF.iload_n dX3_has_0 rfl ?_
  refine AF.if_lt 16 dX3_has_1 (by decide) (fun c1 => ?_) (fun c1 => ?_)
  · refine AF.iconst (0) dX3_has_16 (by decide) ?_
    exact AF.zreturn dX3_has_17 rfl rfl ⟨by rw [decide_eq_false (Int32.not_le.mpr c1)]; rfl, rfl⟩
  · refine AF.iload_n dX3_has_4 rfl ?_
    refine AF.aload_n dX3_has_5 rfl ?_
    refine AF.getfield dX3_has_6 fl_X3_18 (by assumption) rfl ?_
    refine AF.icmp_ge 16 dX3_has_9 (by decide) (fun c2 => ?_) (fun c2 => ?_)
    · refine AF.iconst (0) dX3_has_16 (by decide) ?_
      exact AF.zreturn dX3_has_17 rfl rfl ⟨by rw [decide_eq_false (Int32.not_lt.mpr c2), Bool.and_false]; rfl, rfl⟩
    · refine AF.iconst (1) dX3_has_12 (by decide) ?_
      refine AF.goto 17 dX3_has_13 (by decide) ?_
      exact AF.zreturn dX3_has_17 rfl rfl ⟨by rw [decide_eq_true (Int32.not_lt.mp c1), decide_eq_true (Int32.not_le.mp c2)]; rfl, rfl⟩
set_option maxRecDepth 100000 in
theorem X3_isTaken_ok (hJ : JA G F a J cap w) (x : Int32) : AC G mX3_isTaken 0 0 0 [.ref a, .int x] F (AV (some (.int (bI (fnd (fun j => decide (nI (jp J j) = x)) J.length).isSome))) F) := by
  obtain ⟨f, g, ⟨h0, h1, h2⟩, hn, hr⟩ := hJ
  refine AC.of [some (.ref a), some (.int x), none] rfl (by decide) (Nat.le_of_ble_eq_true rfl) rfl ?_
  have loop : ∀ k j, j + k = J.length → (∀ i, i < j → decide (nI (jp J i) = x) = false) → AF G mX3_isTaken 0 0 0 (AV (some (.int (bI (fnd (fun j => decide (nI (jp J j) = x)) J.length).isSome))) F) F 2 [some (.ref a), some (.int x), some (.int (nI j))] [] := by
    intro k
    induction k with
    | zero =>
      intro j hj hb9
      refine AF.iload_n dX3_isTaken_2 rfl ?_
      refine AF.aload_n dX3_isTaken_3 rfl ?_
      refine AF.getfield dX3_isTaken_4 fl_X3_18 (by assumption) rfl ?_
      refine AF.icmp_ge 28 dX3_isTaken_7 (by decide) (fun hb => ?_) (fun hb => ?_)
      · refine AF.iconst (0) dX3_isTaken_28 (by decide) ?_
        exact AF.zreturn dX3_isTaken_29 rfl rfl ⟨by rw [fnd_none (fun i hi => hb9 i (by omega))]; rfl, rfl⟩
      · exact absurd (by rw [nI_leI (by omega) (by omega)]; omega) hb
    | succ k ih =>
      intro j hj hb9
      refine AF.iload_n dX3_isTaken_2 rfl ?_
      refine AF.aload_n dX3_isTaken_3 rfl ?_
      refine AF.getfield dX3_isTaken_4 fl_X3_18 (by assumption) rfl ?_
      refine AF.icmp_ge 28 dX3_isTaken_7 (by decide) (fun hb => ?_) (fun hb => ?_)
      · rw [nI_leI (by omega) (by omega)] at hb
        omega
      · refine AF.aload_n dX3_isTaken_10 rfl ?_
        refine AF.getfield dX3_isTaken_11 fl_X3_9 (by assumption) rfl ?_
        refine AF.iload_n dX3_isTaken_14 rfl ?_
        refine AF.iaload (_) dX3_isTaken_15 (by assumption) rfl (by omega) (by decide) ?_
        refine AF.iload_n dX3_isTaken_16 rfl ?_
        rw [(hr j (by omega)).1]
        refine AF.icmp_ne 22 dX3_isTaken_17 (by decide) (fun hc => ?_) (fun hc => ?_)
        · refine AF.inc1 dX3_isTaken_22 rfl (by decide) ?_
          refine AF.goto 2 dX3_isTaken_25 (by decide) ?_
          refine ih (j + 1) (by omega) (fun i hi => ?_)
          by_cases e : i = j
          · rw [e]; exact decide_eq_false hc
          · exact hb9 i (by omega)
        · refine AF.iconst (1) dX3_isTaken_20 (by decide) ?_
          exact AF.zreturn dX3_isTaken_21 rfl rfl ⟨by rw [fnd_some (decide_eq_true hc) (by omega) hb9]; rfl, rfl⟩
  refine AF.iconst (0) dX3_isTaken_0 (by decide) ?_
  refine AF.istore_n dX3_isTaken_1 (by decide) ?_
  exact loop J.length 0 (by omega) (fun i hi => by omega)
set_option maxRecDepth 100000 in
theorem X3_supplyFor_ok (hJ : JA G F a J cap w) (D : Nat) (hD : D < 2 ^ 31) (hc : cap < 2 ^ 31) : AC G mX3_supplyFor 1 0 0 [.ref a, .int (nI D)] F (AV (some (.int (nI (if cap < D then cap else D)))) F) := by
  obtain ⟨f, g, ⟨h0, h1, h2⟩, hn, hr⟩ := hJ
  refine AC.of [some (.ref a), some (.int (nI D))] rfl (by decide) (Nat.le_of_ble_eq_true rfl) rfl ?_
  refine AF.iload_n dX3_supplyFor_0 rfl ?_
  refine AF.aload_n dX3_supplyFor_1 rfl ?_
  refine AF.getfield dX3_supplyFor_2 fl_X3_22 (by assumption) rfl ?_
  refine AF.min dX3_supplyFor_5 km_X3_59 (Nat.le_of_ble_eq_true rfl) (by decide) ?_
  refine AF.ireturn dX3_supplyFor_8 rfl ⟨?_, rfl⟩
  by_cases h : cap < D
  · rw [if_pos h, if_pos ((nI_ltI hc hD).mpr h)]
  · rw [if_neg h, if_neg (fun q => h ((nI_ltI hc hD).mp q))]
set_option maxRecDepth 100000 in
theorem X3_heightOf_ok (hJ : JA G F a J cap w) (hI : JI J) (hcap : cap ≤ 100) (D j : Nat) (hD : D ≤ 100) (hj : j < J.length) : AC G mX3_heightOf 0 0 0 [.ref a, .int (nI j), .int (nI D)] F (AV (some (.int (nI (hgt cap D (jo J j))))) F) := by
  obtain ⟨f, g, ⟨h0, h1, h2⟩, hn, hr⟩ := hJ
  have ho := (hI j).2
  refine AC.of [some (.ref a), some (.int (nI j)), some (.int (nI D)), none] rfl (by decide) (Nat.le_of_ble_eq_true rfl) rfl ?_
  refine AF.bipush (nI 10) dX3_heightOf_0 (by decide) ?_
  refine AF.aload_n dX3_heightOf_2 rfl ?_
  refine AF.getfield dX3_heightOf_3 fl_X3_15 (by assumption) rfl ?_
  refine AF.iload_n dX3_heightOf_6 rfl ?_
  refine AF.iaload (_) dX3_heightOf_7 (by assumption) rfl (by omega) (by decide) ?_
  rw [(hr j hj).2]
  refine AF.imul dX3_heightOf_8 ?_
  rw [pk_mul]
  refine AF.istore_n dX3_heightOf_9 (by decide) ?_
  refine AF.iload_n dX3_heightOf_10 rfl ?_
  refine AF.if_le 33 dX3_heightOf_11 (by decide) (fun c1 => ?_) (fun c1 => ?_)
  · refine AF.iload_n dX3_heightOf_33 rfl ?_
    refine AF.ireturn dX3_heightOf_34 rfl ⟨?_, rfl⟩
    have : ¬ 0 < D := fun h => absurd c1 (nI_nle h (by omega))
    rw [hgt, if_neg (by omega)]
  · refine AF.iload_n dX3_heightOf_14 rfl ?_
    refine AF.aload_n dX3_heightOf_15 rfl ?_
    refine AF.getfield dX3_heightOf_16 fl_X3_22 (by assumption) rfl ?_
    refine AF.icmp_le 33 dX3_heightOf_19 (by decide) (fun c2 => ?_) (fun c2 => ?_)
    · refine AF.iload_n dX3_heightOf_33 rfl ?_
      rw [nI_leI (by omega) (by omega)] at c2
      exact AF.ireturn dX3_heightOf_34 rfl ⟨by rw [hgt, if_neg (by omega)], rfl⟩
    · rw [nI_leI (by omega) (by omega)] at c2
      refine AF.iload_n dX3_heightOf_22 rfl ?_
      refine AF.aload_n dX3_heightOf_23 rfl ?_
      refine AF.getfield dX3_heightOf_24 fl_X3_22 (by assumption) rfl ?_
      have hb : 10 * jo J j * cap ≤ 100 * 100 := Nat.mul_le_mul (by omega) hcap
      refine AF.imul dX3_heightOf_27 ?_
      rw [pk_mul]
      refine AF.iload_n dX3_heightOf_28 rfl ?_
      refine AF.idiv dX3_heightOf_29 (nI_ne0 (by omega) (by omega)) ?_
      rw [pk_div (by omega) (by omega) (by omega)]
      refine AF.goto 34 dX3_heightOf_30 (by decide) ?_
      exact AF.ireturn dX3_heightOf_34 rfl ⟨by rw [hgt, if_pos (by omega)], rfl⟩
set_option maxRecDepth 100000 in
theorem X3_landingOf_ok (hJ : JA G F a J cap w) (hI : JI J) (hcap : cap ≤ 100) (D j : Nat) (hD : D ≤ 100) (hj : j < J.length) : AC G mX3_landingOf 1 0 0 [.ref a, .int (nI j), .int (nI D)] F (AV (some (.int (lan J cap w D j))) F) := by
  have hh := X3_heightOf_ok hJ hI hcap D j hD hj
  obtain ⟨f, g, ⟨h0, h1, h2⟩, hn, hr⟩ := hJ
  refine AC.of [some (.ref a), some (.int (nI j)), some (.int (nI D))] rfl (by decide) (Nat.le_of_ble_eq_true rfl) rfl ?_
  refine AF.aload_n dX3_landingOf_0 rfl ?_
  refine AF.getfield dX3_landingOf_1 fl_X3_9 (by assumption) rfl ?_
  refine AF.iload_n dX3_landingOf_4 rfl ?_
  refine AF.iaload (_) dX3_landingOf_5 (by assumption) rfl (by omega) (by decide) ?_
  rw [(hr j hj).1]
  refine AF.aload_n dX3_landingOf_6 rfl ?_
  refine AF.iload_n dX3_landingOf_7 rfl ?_
  refine AF.iload_n dX3_landingOf_8 rfl ?_
  refine AF.v1 dX3_landingOf_9 kv_X3_65 (hh) (by assumption) rfl rfl rfl (Nat.le_of_ble_eq_true rfl) (by decide) rfl ?_
  refine AF.aload_n dX3_landingOf_12 rfl ?_
  refine AF.getfield dX3_landingOf_13 fl_X3_25 (by assumption) rfl ?_
  refine AF.imul dX3_landingOf_16 ?_
  refine AF.bipush (20) dX3_landingOf_17 (by decide) ?_
  refine AF.idiv dX3_landingOf_19 (by decide) ?_
  refine AF.iadd dX3_landingOf_20 ?_
  exact AF.ireturn dX3_landingOf_21 rfl ⟨rfl, rfl⟩
set_option maxRecDepth 100000 in
theorem X3_isOutside_ok (x : Int32) : AC G mX3_isOutside 0 0 0 [.int x] F (AV (some (.int (bI (wil x)))) F) := by
  refine AC.of [some (.int x)] rfl (by decide) (Nat.le_of_ble_eq_true rfl) rfl ?_
  unfold wil
  refine AF.iload_n dX3_isOutside_0 rfl ?_
  refine AF.if_lt 10 dX3_isOutside_1 (by decide) (fun c1 => ?_) (fun c1 => ?_)
  · refine AF.iconst (1) dX3_isOutside_10 (by decide) ?_
    refine AF.goto 15 dX3_isOutside_11 (by decide) ?_
    exact AF.zreturn dX3_isOutside_15 rfl rfl ⟨by rw [decide_eq_true c1]; rfl, rfl⟩
  · refine AF.iload_n dX3_isOutside_4 rfl ?_
    refine AF.bipush (99) dX3_isOutside_5 (by decide) ?_
    refine AF.icmp_le 14 dX3_isOutside_7 (by decide) (fun c2 => ?_) (fun c2 => ?_)
    · refine AF.iconst (0) dX3_isOutside_14 (by decide) ?_
      exact AF.zreturn dX3_isOutside_15 rfl rfl ⟨by rw [decide_eq_false c1, decide_eq_false (Int32.not_lt.mpr c2)]; rfl, rfl⟩
    · refine AF.iconst (1) dX3_isOutside_10 (by decide) ?_
      refine AF.goto 15 dX3_isOutside_11 (by decide) ?_
      exact AF.zreturn dX3_isOutside_15 rfl rfl ⟨by rw [decide_eq_true (Int32.not_le.mp c2), Bool.or_true]; rfl, rfl⟩
end

