/-! Jets: the methods that read. -/
/-- the jets' three cells at a -/
def JA (G : GA) (F : AH) (a n : Nat) (f g : Nat → Int32) (cap w : Int32) : Prop :=
  F.2 a = some (.inr (1, [.ref (a + 1), .ref (a + 2), .int (nI n), .int cap, .int w])) ∧ F.2 (a + 1) = some (.inl (gC G 0, 10, .inl f)) ∧ F.2 (a + 2) = some (.inl (gC G 0, 10, .inl g)) ∧ n ≤ 10
def sumI (g : Nat → Int32) : Nat → Int32
  | 0 => 0
  | n + 1 => sumI g n + g n
set_option maxRecDepth 100000 in
theorem X3_sumOfOpenings_ok {G : GA} {F : AH} {a n : Nat} {f g : Nat → Int32} {cap w : Int32} (hJ : JA G F a n f g cap w) : AC G mX3_sumOfOpenings 0 0 0 [.ref a] F (AV (some (.int (sumI g n))) F) := by
  obtain ⟨h0, h1, h2, hn⟩ := hJ
  refine AC.of [some (.ref a), none, none] rfl (by decide) (Nat.le_of_ble_eq_true rfl) rfl ?_
  have loop : ∀ k j, j + k = n → AF G mX3_sumOfOpenings 0 0 0 (AV (some (.int (sumI g n))) F) F 4 [some (.ref a), some (.int (sumI g j)), some (.int (nI j))] [] := by
    intro k
    induction k with
    | zero =>
      intro j hj
      refine AF.iload_n dX3_sumOfOpenings_4 rfl ?_
      refine AF.aload_n dX3_sumOfOpenings_5 rfl ?_
      refine AF.getfield dX3_sumOfOpenings_6 fl_X3_18 (by assumption) rfl ?_
      refine AF.icmp_ge 27 dX3_sumOfOpenings_9 (by decide) (fun hb => ?_) (fun hb => ?_)
      · refine AF.iload_n dX3_sumOfOpenings_27 rfl ?_
        exact AF.ireturn dX3_sumOfOpenings_28 rfl ⟨by rw [show j = n by omega], rfl⟩
      · exact absurd (by rw [nI_leI (by omega) (by omega)]; omega) hb
    | succ k ih =>
      intro j hj
      refine AF.iload_n dX3_sumOfOpenings_4 rfl ?_
      refine AF.aload_n dX3_sumOfOpenings_5 rfl ?_
      refine AF.getfield dX3_sumOfOpenings_6 fl_X3_18 (by assumption) rfl ?_
      refine AF.icmp_ge 27 dX3_sumOfOpenings_9 (by decide) (fun hb => ?_) (fun hb => ?_)
      · rw [nI_leI (by omega) (by omega)] at hb
        omega
      · refine AF.iload_n dX3_sumOfOpenings_12 rfl ?_
        refine AF.aload_n dX3_sumOfOpenings_13 rfl ?_
        refine AF.getfield dX3_sumOfOpenings_14 fl_X3_15 (by assumption) rfl ?_
        refine AF.iload_n dX3_sumOfOpenings_17 rfl ?_
        refine AF.iaload (_) dX3_sumOfOpenings_18 (by assumption) rfl (by omega) (by decide) ?_
        refine AF.iadd dX3_sumOfOpenings_19 ?_
        refine AF.istore_n dX3_sumOfOpenings_20 (by decide) ?_
        refine AF.inc1 dX3_sumOfOpenings_21 rfl (by decide) ?_
        refine AF.goto 4 dX3_sumOfOpenings_24 (by decide) ?_
        exact ih (j + 1) (by omega)
  refine AF.iconst (0) dX3_sumOfOpenings_0 (by decide) ?_
  refine AF.istore_n dX3_sumOfOpenings_1 (by decide) ?_
  refine AF.iconst (0) dX3_sumOfOpenings_2 (by decide) ?_
  refine AF.istore_n dX3_sumOfOpenings_3 (by decide) ?_
  exact loop n 0 (by omega)
set_option maxRecDepth 100000 in
theorem X3_has_ok {G : GA} {F : AH} {a n : Nat} {f g : Nat → Int32} {cap w : Int32} (hJ : JA G F a n f g cap w) (x : Int32) : AC G mX3_has 0 0 0 [.ref a, .int x] F (AV (some (.int (if 0 ≤ x ∧ x < nI n then 1 else 0))) F) := by
  obtain ⟨h0, h1, h2, hn⟩ := hJ
  refine AC.of [some (.ref a), some (.int x)] rfl (by decide) (Nat.le_of_ble_eq_true rfl) rfl ?_
  refine AF.iload_n dX3_has_0 rfl ?_
  refine AF.if_lt 16 dX3_has_1 (by decide) (fun c1 => ?_) (fun c1 => ?_)
  · refine AF.iconst (0) dX3_has_16 (by decide) ?_
    exact AF.zreturn dX3_has_17 rfl rfl ⟨by rw [if_neg (by rintro ⟨q, -⟩; exact absurd c1 (Int32.not_lt.mpr q))], rfl⟩
  · refine AF.iload_n dX3_has_4 rfl ?_
    refine AF.aload_n dX3_has_5 rfl ?_
    refine AF.getfield dX3_has_6 fl_X3_18 (by assumption) rfl ?_
    refine AF.icmp_ge 16 dX3_has_9 (by decide) (fun c2 => ?_) (fun c2 => ?_)
    · refine AF.iconst (0) dX3_has_16 (by decide) ?_
      exact AF.zreturn dX3_has_17 rfl rfl ⟨by rw [if_neg (by rintro ⟨-, q⟩; exact absurd q (Int32.not_lt.mpr c2))], rfl⟩
    · refine AF.iconst (1) dX3_has_12 (by decide) ?_
      refine AF.goto 17 dX3_has_13 (by decide) ?_
      exact AF.zreturn dX3_has_17 rfl rfl ⟨by rw [if_pos ⟨Int32.not_lt.mp c1, Int32.not_le.mp c2⟩], rfl⟩

