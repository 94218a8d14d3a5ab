/-! The reference as the runs see it: its questions that look at all. -/
theorem XI.sq {X : XS} {B : Nat} (h : XI X B) : SQ X.sg B := h.1
theorem bIlt {x y : Nat} (hx : x < 2 ^ 31) (hy : y < 2 ^ 31) : bI (decide (x < y)) = if nI x < nI y then 1 else 0 := by
  unfold bI
  by_cases h : x < y
  · rw [if_pos (decide_eq_true h), if_pos ((nI_ltI hx hy).mpr h)]
  · rw [if_neg (by rw [decide_eq_false h]; decide), if_neg (fun q => h ((nI_ltI hx hy).mp q))]
theorem dst_away {a p : Int32} : (if a.toInt64 - p.toInt64 < 0 then -(a.toInt64 - p.toInt64) else a.toInt64 - p.toInt64) = dst a p := by
  unfold dst
  generalize a.toInt64 - p.toInt64 = x
  by_cases h : 0 < x
  · rw [if_pos h, if_neg (fun q => absurd (Int64.lt_trans h q) Int64.lt_irrefl)]
  · rw [if_neg h]
    by_cases h2 : x < 0
    · rw [if_pos h2]
    · rw [if_neg h2]
      have : x = 0 := Int64.le_antisymm (Int64.not_lt.mp h) (Int64.not_lt.mp h2)
      subst this; rfl
/-- the first of the coming n beats after which the demand is too great -/
def fovP (σ : Sg) (k : Nat) : Bool := decide (σ.cap < dem (nxN σ (k + 1)).J)
def fov (σ : Sg) (n : Nat) : Option Nat := fnd (fovP σ) n
theorem nxN_cap {σ : Sg} : ∀ n, (nxN σ n).cap = σ.cap
  | 0 => rfl
  | n + 1 => nxN_cap n
section
variable {G : GA} {F : AH} {m : Nat} {g f : Nat → Int32} {A : Nat → Nat → Int32} {σ : Sg} {B : Nat} {X : XS} {th : Int32}
set_option maxRecDepth 100000 in
theorem X9_wildCount_ok (hM : MX G F m X th) (ha : gN G ≤ m) (hI : SQ X.sg B) : AC G mX9_wildCount 5 0 0 [.ref m] F (MQq G m X 0 (nI (cntB (wld X.sg.J X.sg.cap X.sg.w) X.sg.J.length)) F) := by
  obtain ⟨g, f, A, hM, hS, -, hr⟩ := hM
  have hn := hS.2.1.1
  refine AC.of [some (.ref m), none, none] rfl (by decide) (Nat.le_of_ble_eq_true rfl) rfl ?_
  have hfr : Fr m (m + 9) F F := Fr.rf
  have loop : ∀ k j F1, j + k = X.sg.J.length → MA G F1 m (upd g 0 (nI 0)) f A → Fr m (m + 9) F F1 → AF G mX9_wildCount 5 0 0 (MQq G m X 0 (nI (cntB (wld X.sg.J X.sg.cap X.sg.w) X.sg.J.length)) F) F1 9 [some (.ref m), some (.int (nI (cntB (wld X.sg.J X.sg.cap X.sg.w) j))), some (.int (nI j))] [] := by
    intro k
    induction k with
    | zero =>
      intro j F1 hj hM2 hfr
      obtain ⟨h0, h1, hR⟩ := id hM2
      refine AF.iload_n dX9_wildCount_9 rfl ?_
      refine AF.aload_n dX9_wildCount_10 rfl ?_
      refine AF.getfield dX9_wildCount_11 fl_X9_7 (by assumption) rfl ?_
      refine AF.iconst (nI 0) dX9_wildCount_14 (by decide) ?_
      refine AF.iaload (_) dX9_wildCount_15 (by assumption) rfl (by omega) (by decide) ?_
      rw [hS.1.1]
      refine AF.icmp_ge 41 dX9_wildCount_16 (by decide) (fun hb => ?_) (fun hb => ?_)
      · refine AF.iload_n dX9_wildCount_41 rfl ?_
        rw [show j = X.sg.J.length by omega]
        exact AF.ireturn dX9_wildCount_42 rfl ⟨rfl, ⟨_, f, A, hM2, hS, rfl, hr⟩, hfr⟩
      · exact absurd (by rw [nI_leI (by omega) (by omega)]; omega) hb
    | succ k ih =>
      intro j F1 hj hM2 hfr
      obtain ⟨h0, h1, hR⟩ := id hM2
      have h9 := ih (j + 1) F1 (by omega) hM2 hfr
      simp only [cntB] at h9
      refine AF.iload_n dX9_wildCount_9 rfl ?_
      refine AF.aload_n dX9_wildCount_10 rfl ?_
      refine AF.getfield dX9_wildCount_11 fl_X9_7 (by assumption) rfl ?_
      refine AF.iconst (nI 0) dX9_wildCount_14 (by decide) ?_
      refine AF.iaload (_) dX9_wildCount_15 (by assumption) rfl (by omega) (by decide) ?_
      rw [hS.1.1]
      refine AF.icmp_ge 41 dX9_wildCount_16 (by decide) (fun hb => ?_) (fun hb => ?_)
      · rw [nI_leI (by omega) (by omega)] at hb
        omega
      · refine AF.iload_n dX9_wildCount_19 rfl ?_
        refine AF.aload_n dX9_wildCount_20 rfl ?_
        refine AF.iload_n dX9_wildCount_21 rfl ?_
        refine AF.v1 dX9_wildCount_22 kv_X9_98 ((X9_wild_ok hM2 hS hI.1 j (by omega))) (by assumption) rfl rfl rfl (Nat.le_of_ble_eq_true rfl) (by decide) rfl ?_
        refine AF.if_eq 32 dX9_wildCount_25 (by decide) (fun hc => ?_) (fun hc => ?_)
        · rw [if_neg (by rw [bI_z hc]; decide)] at h9
          refine AF.iconst (nI 0) dX9_wildCount_32 (by decide) ?_
          refine AF.iadd dX9_wildCount_33 ?_
          rw [nI_add]
          refine AF.istore_n dX9_wildCount_34 (by decide) ?_
          refine AF.inc1 dX9_wildCount_35 rfl (by decide) ?_
          refine AF.goto 9 dX9_wildCount_38 (by decide) ?_
          exact h9
        · rw [if_pos (bI_n hc)] at h9
          refine AF.iconst (nI 1) dX9_wildCount_28 (by decide) ?_
          refine AF.goto 33 dX9_wildCount_29 (by decide) ?_
          refine AF.iadd dX9_wildCount_33 ?_
          rw [nI_add]
          refine AF.istore_n dX9_wildCount_34 (by decide) ?_
          refine AF.inc1 dX9_wildCount_35 rfl (by decide) ?_
          refine AF.goto 9 dX9_wildCount_38 (by decide) ?_
          exact h9
  obtain ⟨h0, h1, hR⟩ := hM
  refine AF.aload_n dX9_wildCount_0 rfl ?_
  refine AF.iconst (nI 0) dX9_wildCount_1 (by decide) ?_
  refine AF.putfieldF dX9_wildCount_2 fp_X9_41 h0 (by omega) (Nat.le_of_ble_eq_true rfl) rfl rfl (Or.inr fq_6_0) ?_
  intro F e9 h9 o9
  replace h1 := (o9 (m + 1) (by omega)).trans h1
  replace hR := hR.kept (fun q h1 h2 => o9 q (by omega))
  replace h0 := h9
  replace hfr := hfr.step e9 (by omega) (by omega) o9
  clear e9 h9 o9
  refine AF.iconst (nI 0) dX9_wildCount_5 (by decide) ?_
  refine AF.istore_n dX9_wildCount_6 (by decide) ?_
  refine AF.iconst (nI 0) dX9_wildCount_7 (by decide) ?_
  refine AF.istore_n dX9_wildCount_8 (by decide) ?_
  exact loop X.sg.J.length 0 F (by omega) ⟨h0, h1, hR⟩ hfr
set_option maxRecDepth 100000 in
theorem X9_highestJet_ok (hM : MX G F m X th) (ha : gN G ≤ m) (hI : SQ X.sg B) : AC G mX9_highestJet 5 0 0 [.ref m] F (MQq G m X (if X.sg.J.length = 0 then 1 else 0) (nI (hghst X.sg.J X.sg.cap)) F) := by
  obtain ⟨g, f, A, hM, hS, -, hr⟩ := hM
  have hn := hS.2.1.1
  refine AC.of [some (.ref m), none, none] rfl (by decide) (Nat.le_of_ble_eq_true rfl) rfl ?_
  have hfr : Fr m (m + 9) F F := Fr.rf
  generalize hP : (fun j b => decide (hgt X.sg.cap (dem X.sg.J) (jo X.sg.J b) < hgt X.sg.cap (dem X.sg.J) (jo X.sg.J j))) = P
  have hg : hghst X.sg.J X.sg.cap = bst P X.sg.J.length := by rw [← hP]; rfl
  rw [hg]
  have hhl : ∀ j, hgt X.sg.cap (dem X.sg.J) (jo X.sg.J j) ≤ 100 := fun j => hgt_le (hI.1.1 j).2
  have loop : ∀ k j F1, 1 ≤ j → ¬ X.sg.J.length = 0 → j + k = X.sg.J.length → MA G F1 m (upd g 0 (nI 0)) f A → Fr m (m + 9) F F1 → AF G mX9_highestJet 5 0 0 (MQq G m X 0 (nI (bst P X.sg.J.length)) F) F1 22 [some (.ref m), some (.int (nI (bst P j))), some (.int (nI j))] [] := by
    intro k
    induction k with
    | zero =>
      intro j F1 h1j hne hj hM2 hfr
      obtain ⟨h0, h1, hR⟩ := id hM2
      refine AF.iload_n dX9_highestJet_22 rfl ?_
      refine AF.aload_n dX9_highestJet_23 rfl ?_
      refine AF.getfield dX9_highestJet_24 fl_X9_7 (by assumption) rfl ?_
      refine AF.iconst (nI 0) dX9_highestJet_27 (by decide) ?_
      refine AF.iaload (_) dX9_highestJet_28 (by assumption) rfl (by omega) (by decide) ?_
      rw [hS.1.1]
      refine AF.icmp_ge 57 dX9_highestJet_29 (by decide) (fun hb => ?_) (fun hb => ?_)
      · refine AF.iload_n dX9_highestJet_57 rfl ?_
        rw [show j = X.sg.J.length by omega]
        exact AF.ireturn dX9_highestJet_58 rfl ⟨rfl, ⟨_, f, A, hM2, hS, rfl, hr⟩, hfr⟩
      · exact absurd (by rw [nI_leI (by omega) (by omega)]; omega) hb
    | succ k ih =>
      intro j F1 h1j hne hj hM2 hfr
      obtain ⟨h0, h1, hR⟩ := id hM2
      have h9 := ih (j + 1) F1 (by omega) hne (by omega) hM2 hfr
      simp only [bst] at h9
      have hbl := bst_lt (P := P) j (by omega)
      have hv1 := hhl j
      have hv2 := hhl (bst P j)
      refine AF.iload_n dX9_highestJet_22 rfl ?_
      refine AF.aload_n dX9_highestJet_23 rfl ?_
      refine AF.getfield dX9_highestJet_24 fl_X9_7 (by assumption) rfl ?_
      refine AF.iconst (nI 0) dX9_highestJet_27 (by decide) ?_
      refine AF.iaload (_) dX9_highestJet_28 (by assumption) rfl (by omega) (by decide) ?_
      rw [hS.1.1]
      refine AF.icmp_ge 57 dX9_highestJet_29 (by decide) (fun hb => ?_) (fun hb => ?_)
      · rw [nI_leI (by omega) (by omega)] at hb
        omega
      · refine AF.aload_n dX9_highestJet_32 rfl ?_
        refine AF.iload_n dX9_highestJet_33 rfl ?_
        refine AF.v1 dX9_highestJet_34 kv_X9_71 ((X9_high_ok hM2 hS hI.1 j (by omega))) (by assumption) rfl rfl rfl (Nat.le_of_ble_eq_true rfl) (by decide) rfl ?_
        refine AF.aload_n dX9_highestJet_37 rfl ?_
        refine AF.iload_n dX9_highestJet_38 rfl ?_
        refine AF.v1 dX9_highestJet_39 kv_X9_71 ((X9_high_ok hM2 hS hI.1 (bst P j) (by omega))) (by assumption) rfl rfl rfl (Nat.le_of_ble_eq_true rfl) (by decide) rfl ?_
        refine AF.icmp_le 49 dX9_highestJet_42 (by decide) (fun hc => ?_) (fun hc => ?_)
        · rw [nI_leI (by omega) (by omega)] at hc
          rw [if_neg (by rw [← hP, decide_eq_true_iff] at *; omega)] at h9
          refine AF.iload_n dX9_highestJet_49 rfl ?_
          refine AF.istore_n dX9_highestJet_50 (by decide) ?_
          refine AF.inc1 dX9_highestJet_51 rfl (by decide) ?_
          refine AF.goto 22 dX9_highestJet_54 (by decide) ?_
          exact h9
        · rw [nI_leI (by omega) (by omega)] at hc
          rw [if_pos (by rw [← hP, decide_eq_true_iff] at *; omega)] at h9
          refine AF.iload_n dX9_highestJet_45 rfl ?_
          refine AF.goto 50 dX9_highestJet_46 (by decide) ?_
          refine AF.istore_n dX9_highestJet_50 (by decide) ?_
          refine AF.inc1 dX9_highestJet_51 rfl (by decide) ?_
          refine AF.goto 22 dX9_highestJet_54 (by decide) ?_
          exact h9
  obtain ⟨h0, h1, hR⟩ := hM
  refine AF.aload_n dX9_highestJet_0 rfl ?_
  refine AF.aload_n dX9_highestJet_1 rfl ?_
  refine AF.getfield dX9_highestJet_2 fl_X9_7 (by assumption) rfl ?_
  refine AF.iconst (nI 0) dX9_highestJet_5 (by decide) ?_
  refine AF.iaload (_) dX9_highestJet_6 (by assumption) rfl (by omega) (by decide) ?_
  rw [hS.1.1]
  refine AF.if_ne 14 dX9_highestJet_7 (by decide) (fun hc => ?_) (fun hc => ?_)
  · have hc : ¬ X.sg.J.length = 0 := fun q => hc (by rw [q]; rfl)
    rw [if_neg hc]
    refine AF.iconst (nI 0) dX9_highestJet_14 (by decide) ?_
    refine AF.putfieldF dX9_highestJet_15 fp_X9_41 h0 (by omega) (Nat.le_of_ble_eq_true rfl) rfl rfl (Or.inr fq_6_0) ?_
    intro F e9 h9 o9
    replace h1 := (o9 (m + 1) (by omega)).trans h1
    replace hR := hR.kept (fun q h1 h2 => o9 q (by omega))
    replace h0 := h9
    replace hfr := hfr.step e9 (by omega) (by omega) o9
    clear e9 h9 o9
    refine AF.iconst (nI 0) dX9_highestJet_18 (by decide) ?_
    refine AF.istore_n dX9_highestJet_19 (by decide) ?_
    refine AF.iconst (nI 1) dX9_highestJet_20 (by decide) ?_
    refine AF.istore_n dX9_highestJet_21 (by decide) ?_
    have h9 := loop (X.sg.J.length - 1) 1 F (by omega) hc (by omega) ⟨h0, h1, hR⟩ hfr
    rw [bst_1] at h9
    exact h9
  · rw [show (0 : Int32) = nI 0 from rfl, nI_eq (by omega) (by omega)] at hc
    rw [if_pos hc]
    refine AF.iconst (nI 1) dX9_highestJet_10 (by decide) ?_
    refine AF.goto 15 dX9_highestJet_11 (by decide) ?_
    refine AF.putfieldF dX9_highestJet_15 fp_X9_41 h0 (by omega) (Nat.le_of_ble_eq_true rfl) rfl rfl (Or.inr fq_6_0) ?_
    intro F e9 h9 o9
    replace h1 := (o9 (m + 1) (by omega)).trans h1
    replace hR := hR.kept (fun q h1 h2 => o9 q (by omega))
    replace h0 := h9
    replace hfr := hfr.step e9 (by omega) (by omega) o9
    clear e9 h9 o9
    refine AF.iconst (nI 0) dX9_highestJet_18 (by decide) ?_
    refine AF.istore_n dX9_highestJet_19 (by decide) ?_
    refine AF.iconst (nI 1) dX9_highestJet_20 (by decide) ?_
    refine AF.istore_n dX9_highestJet_21 (by decide) ?_
    refine AF.iload_n dX9_highestJet_22 rfl ?_
    refine AF.aload_n dX9_highestJet_23 rfl ?_
    refine AF.getfield dX9_highestJet_24 fl_X9_7 (by assumption) rfl ?_
    refine AF.iconst (nI 0) dX9_highestJet_27 (by decide) ?_
    refine AF.iaload (_) dX9_highestJet_28 (by assumption) rfl (by omega) (by decide) ?_
    rw [hS.1.1, hc]
    have hM2 : MA G F m (upd g 0 (nI 1)) f A := ⟨h0, h1, hR⟩
    refine AF.icmp_ge 57 dX9_highestJet_29 (by decide) (fun hb => ?_) (fun hb => ?_)
    · refine AF.iload_n dX9_highestJet_57 rfl ?_
      exact AF.ireturn dX9_highestJet_58 rfl ⟨rfl, ⟨_, f, A, hM2, hS, rfl, hr⟩, hfr⟩
    · exact absurd (show nI 0 ≤ nI 1 by decide) hb
set_option maxRecDepth 100000 in
theorem X9_away_ok (hM : MA G F m g f A) (hS : SR σ f) (hI : SI σ B) (j : Nat) (hj : j < σ.J.length) (p : Int32) : AC G mX9_away 4 0 0 [.ref m, .int (nI j), .int p] F (AV (some (.long (dst (lan σ.J σ.cap σ.w (dem σ.J) j) p))) F) := by
  have hL := X9_lands_ok hM hS hI j hj
  obtain ⟨h0, h1, hR⟩ := hM
  refine AC.of [some (.ref m), some (.int (nI j)), some (.int p), none, none] rfl (by decide) (Nat.le_of_ble_eq_true rfl) rfl ?_
  rw [← dst_away]
  refine AF.aload_n dX9_away_0 rfl ?_
  refine AF.iload_n dX9_away_1 rfl ?_
  refine AF.v1 dX9_away_2 kv_X9_74 (hL) (by assumption) rfl rfl rfl (Nat.le_of_ble_eq_true rfl) (by decide) rfl ?_
  generalize lan σ.J σ.cap σ.w (dem σ.J) j = a
  refine AF.i2l dX9_away_5 ?_
  refine AF.iload_n dX9_away_6 rfl ?_
  refine AF.i2l dX9_away_7 ?_
  refine AF.lsub dX9_away_8 ?_
  refine AF.lstore_n dX9_away_9 (by decide) ?_
  refine AF.lload_n dX9_away_10 rfl ?_
  refine AF.lconst (0) dX9_away_11 (by decide) ?_
  refine AF.lcmp dX9_away_12 ?_
  refine AF.if_ge 21 dX9_away_13 (by decide) (fun hc => ?_) (fun hc => ?_)
  · rw [if_neg (lcmp_ge hc)]
    refine AF.lload_n dX9_away_21 rfl ?_
    exact AF.lreturn dX9_away_22 rfl ⟨rfl, rfl⟩
  · rw [if_pos (lcmp_nge hc)]
    refine AF.lload_n dX9_away_16 rfl ?_
    refine AF.lneg dX9_away_17 ?_
    refine AF.goto 22 dX9_away_18 (by decide) ?_
    exact AF.lreturn dX9_away_22 rfl ⟨rfl, rfl⟩
set_option maxRecDepth 100000 in
theorem X9_nearestLanding_ok (hM : MX G F m X th) (ha : gN G ≤ m) (hI : SQ X.sg B) (x : Int32) : AC G mX9_nearestLanding 6 0 0 [.ref m, .int x] F (MQq G m X (if X.sg.J.length = 0 then 1 else 0) (nI (nrst X.sg.J X.sg.cap X.sg.w x)) F) := by
  obtain ⟨g, f, A, hM, hS, -, hr⟩ := hM
  have hn := hS.2.1.1
  refine AC.of [some (.ref m), some (.int x), none, none] rfl (by decide) (Nat.le_of_ble_eq_true rfl) rfl ?_
  have hfr : Fr m (m + 9) F F := Fr.rf
  generalize hP : (fun j b => decide (dst (lan X.sg.J X.sg.cap X.sg.w (dem X.sg.J) j) x < dst (lan X.sg.J X.sg.cap X.sg.w (dem X.sg.J) b) x)) = P
  have hg : nrst X.sg.J X.sg.cap X.sg.w x = bst P X.sg.J.length := by rw [← hP]; rfl
  rw [hg]
  have loop : ∀ k j F1, 1 ≤ j → ¬ X.sg.J.length = 0 → j + k = X.sg.J.length → MA G F1 m (upd g 0 (nI 0)) f A → Fr m (m + 9) F F1 → AF G mX9_nearestLanding 6 0 0 (MQq G m X 0 (nI (bst P X.sg.J.length)) F) F1 22 [some (.ref m), some (.int x), some (.int (nI (bst P j))), some (.int (nI j))] [] := by
    intro k
    induction k with
    | zero =>
      intro j F1 h1j hne hj hM2 hfr
      obtain ⟨h0, h1, hR⟩ := id hM2
      refine AF.iload_n dX9_nearestLanding_22 rfl ?_
      refine AF.aload_n dX9_nearestLanding_23 rfl ?_
      refine AF.getfield dX9_nearestLanding_24 fl_X9_7 (by assumption) rfl ?_
      refine AF.iconst (nI 0) dX9_nearestLanding_27 (by decide) ?_
      refine AF.iaload (_) dX9_nearestLanding_28 (by assumption) rfl (by omega) (by decide) ?_
      rw [hS.1.1]
      refine AF.icmp_ge 60 dX9_nearestLanding_29 (by decide) (fun hb => ?_) (fun hb => ?_)
      · refine AF.iload_n dX9_nearestLanding_60 rfl ?_
        rw [show j = X.sg.J.length by omega]
        exact AF.ireturn dX9_nearestLanding_61 rfl ⟨rfl, ⟨_, f, A, hM2, hS, rfl, hr⟩, hfr⟩
      · exact absurd (by rw [nI_leI (by omega) (by omega)]; omega) hb
    | succ k ih =>
      intro j F1 h1j hne hj hM2 hfr
      obtain ⟨h0, h1, hR⟩ := id hM2
      have h9 := ih (j + 1) F1 (by omega) hne (by omega) hM2 hfr
      simp only [bst] at h9
      have hbl := bst_lt (P := P) j (by omega)
      refine AF.iload_n dX9_nearestLanding_22 rfl ?_
      refine AF.aload_n dX9_nearestLanding_23 rfl ?_
      refine AF.getfield dX9_nearestLanding_24 fl_X9_7 (by assumption) rfl ?_
      refine AF.iconst (nI 0) dX9_nearestLanding_27 (by decide) ?_
      refine AF.iaload (_) dX9_nearestLanding_28 (by assumption) rfl (by omega) (by decide) ?_
      rw [hS.1.1]
      refine AF.icmp_ge 60 dX9_nearestLanding_29 (by decide) (fun hb => ?_) (fun hb => ?_)
      · rw [nI_leI (by omega) (by omega)] at hb
        omega
      · refine AF.aload_n dX9_nearestLanding_32 rfl ?_
        refine AF.iload_n dX9_nearestLanding_33 rfl ?_
        refine AF.iload_n dX9_nearestLanding_34 rfl ?_
        refine AF.v1 dX9_nearestLanding_35 kv_X9_143 ((X9_away_ok hM2 hS hI.1 j (by omega) x)) (by assumption) rfl rfl rfl (Nat.le_of_ble_eq_true rfl) (by decide) rfl ?_
        refine AF.aload_n dX9_nearestLanding_38 rfl ?_
        refine AF.iload_n dX9_nearestLanding_39 rfl ?_
        refine AF.iload_n dX9_nearestLanding_40 rfl ?_
        refine AF.v1 dX9_nearestLanding_41 kv_X9_143 ((X9_away_ok hM2 hS hI.1 (bst P j) (by omega) x)) (by assumption) rfl rfl rfl (Nat.le_of_ble_eq_true rfl) (by decide) rfl ?_
        refine AF.lcmp dX9_nearestLanding_44 ?_
        refine AF.if_ge 52 dX9_nearestLanding_45 (by decide) (fun hc => ?_) (fun hc => ?_)
        · rw [if_neg (by rw [← hP, decide_eq_true_iff] at *; exact lcmp_ge hc)] at h9
          refine AF.iload_n dX9_nearestLanding_52 rfl ?_
          refine AF.istore_n dX9_nearestLanding_53 (by decide) ?_
          refine AF.inc1 dX9_nearestLanding_54 rfl (by decide) ?_
          refine AF.goto 22 dX9_nearestLanding_57 (by decide) ?_
          exact h9
        · rw [if_pos (by rw [← hP, decide_eq_true_iff] at *; exact lcmp_nge hc)] at h9
          refine AF.iload_n dX9_nearestLanding_48 rfl ?_
          refine AF.goto 53 dX9_nearestLanding_49 (by decide) ?_
          refine AF.istore_n dX9_nearestLanding_53 (by decide) ?_
          refine AF.inc1 dX9_nearestLanding_54 rfl (by decide) ?_
          refine AF.goto 22 dX9_nearestLanding_57 (by decide) ?_
          exact h9
  obtain ⟨h0, h1, hR⟩ := hM
  refine AF.aload_n dX9_nearestLanding_0 rfl ?_
  refine AF.aload_n dX9_nearestLanding_1 rfl ?_
  refine AF.getfield dX9_nearestLanding_2 fl_X9_7 (by assumption) rfl ?_
  refine AF.iconst (nI 0) dX9_nearestLanding_5 (by decide) ?_
  refine AF.iaload (_) dX9_nearestLanding_6 (by assumption) rfl (by omega) (by decide) ?_
  rw [hS.1.1]
  refine AF.if_ne 14 dX9_nearestLanding_7 (by decide) (fun hc => ?_) (fun hc => ?_)
  · have hc : ¬ X.sg.J.length = 0 := fun q => hc (by rw [q]; rfl)
    rw [if_neg hc]
    refine AF.iconst (nI 0) dX9_nearestLanding_14 (by decide) ?_
    refine AF.putfieldF dX9_nearestLanding_15 fp_X9_41 h0 (by omega) (Nat.le_of_ble_eq_true rfl) rfl rfl (Or.inr fq_6_0) ?_
    intro F e9 h9 o9
    replace h1 := (o9 (m + 1) (by omega)).trans h1
    replace hR := hR.kept (fun q h1 h2 => o9 q (by omega))
    replace h0 := h9
    replace hfr := hfr.step e9 (by omega) (by omega) o9
    clear e9 h9 o9
    refine AF.iconst (nI 0) dX9_nearestLanding_18 (by decide) ?_
    refine AF.istore_n dX9_nearestLanding_19 (by decide) ?_
    refine AF.iconst (nI 1) dX9_nearestLanding_20 (by decide) ?_
    refine AF.istore_n dX9_nearestLanding_21 (by decide) ?_
    have h9 := loop (X.sg.J.length - 1) 1 F (by omega) hc (by omega) ⟨h0, h1, hR⟩ hfr
    rw [bst_1] at h9
    exact h9
  · rw [show (0 : Int32) = nI 0 from rfl, nI_eq (by omega) (by omega)] at hc
    rw [if_pos hc]
    refine AF.iconst (nI 1) dX9_nearestLanding_10 (by decide) ?_
    refine AF.goto 15 dX9_nearestLanding_11 (by decide) ?_
    refine AF.putfieldF dX9_nearestLanding_15 fp_X9_41 h0 (by omega) (Nat.le_of_ble_eq_true rfl) rfl rfl (Or.inr fq_6_0) ?_
    intro F e9 h9 o9
    replace h1 := (o9 (m + 1) (by omega)).trans h1
    replace hR := hR.kept (fun q h1 h2 => o9 q (by omega))
    replace h0 := h9
    replace hfr := hfr.step e9 (by omega) (by omega) o9
    clear e9 h9 o9
    refine AF.iconst (nI 0) dX9_nearestLanding_18 (by decide) ?_
    refine AF.istore_n dX9_nearestLanding_19 (by decide) ?_
    refine AF.iconst (nI 1) dX9_nearestLanding_20 (by decide) ?_
    refine AF.istore_n dX9_nearestLanding_21 (by decide) ?_
    refine AF.iload_n dX9_nearestLanding_22 rfl ?_
    refine AF.aload_n dX9_nearestLanding_23 rfl ?_
    refine AF.getfield dX9_nearestLanding_24 fl_X9_7 (by assumption) rfl ?_
    refine AF.iconst (nI 0) dX9_nearestLanding_27 (by decide) ?_
    refine AF.iaload (_) dX9_nearestLanding_28 (by assumption) rfl (by omega) (by decide) ?_
    rw [hS.1.1, hc]
    have hM2 : MA G F m (upd g 0 (nI 1)) f A := ⟨h0, h1, hR⟩
    refine AF.icmp_ge 60 dX9_nearestLanding_29 (by decide) (fun hb => ?_) (fun hb => ?_)
    · refine AF.iload_n dX9_nearestLanding_60 rfl ?_
      exact AF.ireturn dX9_nearestLanding_61 rfl ⟨rfl, ⟨_, f, A, hM2, hS, rfl, hr⟩, hfr⟩
    · exact absurd (show nI 0 ≤ nI 1 by decide) hb
set_option maxRecDepth 100000 in
theorem X9_jetByPosition_ok (hM : MX G F m X th) (ha : gN G ≤ m) (hI : SQ X.sg B) (x : Int32) : AC G mX9_jetByPosition 3 0 0 [.ref m, .int x] F (MQq G m X (if (fnd (fun j => decide (nI (rnk X.sg.J j) = x)) X.sg.J.length).isSome = true then 0 else 1) (nI ((fnd (fun j => decide (nI (rnk X.sg.J j) = x)) X.sg.J.length).getD 0)) F) := by
  obtain ⟨g, f, A, hM, hS, -, hr⟩ := hM
  have hn := hS.2.1.1
  refine AC.of [some (.ref m), some (.int x), none, none, none] rfl (by decide) (Nat.le_of_ble_eq_true rfl) rfl ?_
  have hfr : Fr m (m + 9) F F := Fr.rf
  have hpl : ∀ F1, MA G F1 m (upd g 0 (nI 0)) f A → ∀ j, j < X.sg.J.length → AC G mX9_place 0 0 0 [.ref m, .int (nI j)] F1 (AV (some (.int (nI (jp X.sg.J j)))) F1) := fun F1 h j hj => by
    have := X9_place_ok h j (by omega)
    rw [(hS.2.1.2 j hj).1] at this
    exact this
  have loop : ∀ k j F1 z3 z4, j + k = X.sg.J.length → (∀ i, i < j → decide (nI (rnk X.sg.J i) = x) = false) → MA G F1 m (upd g 0 (nI 0)) f A → Fr m (m + 9) F F1 → AF G mX9_jetByPosition 3 0 0 (MQq G m X (if (fnd (fun j => decide (nI (rnk X.sg.J j) = x)) X.sg.J.length).isSome = true then 0 else 1) (nI ((fnd (fun j => decide (nI (rnk X.sg.J j) = x)) X.sg.J.length).getD 0)) F) F1 7 [some (.ref m), some (.int x), some (.int (nI j)), z3, z4] [] := by
    intro k
    induction k with
    | zero =>
      intro j F1 z3 z4 hj hb9 hM2 hfr
      obtain ⟨h0, h1, hR⟩ := id hM2
      refine AF.iload_n dX9_jetByPosition_7 rfl ?_
      refine AF.aload_n dX9_jetByPosition_8 rfl ?_
      refine AF.getfield dX9_jetByPosition_9 fl_X9_7 (by assumption) rfl ?_
      refine AF.iconst (nI 0) dX9_jetByPosition_12 (by decide) ?_
      refine AF.iaload (_) dX9_jetByPosition_13 (by assumption) rfl (by omega) (by decide) ?_
      rw [hS.1.1]
      refine AF.icmp_ge 74 dX9_jetByPosition_14 (by decide) (fun hb => ?_) (fun hb => ?_)
      · rw [fnd_none (fun i hi => hb9 i (by omega))]
        refine AF.aload_n dX9_jetByPosition_74 rfl ?_
        refine AF.iconst (nI 1) dX9_jetByPosition_75 (by decide) ?_
        refine AF.vw dX9_jetByPosition_76 kv_X9_54 (X9_fails_ok hM2 ha (nI 1)) (by assumption) rfl rfl rfl (Nat.le_of_ble_eq_true rfl) (by decide) rfl (fun E F9 q => nomatch q.1) (fun v F q => ?_)
        obtain ⟨q, hM3, q3⟩ := q
        cases q
        exact AF.ireturn dX9_jetByPosition_79 rfl ⟨rfl, ⟨_, f, A, hM3, hS, rfl, hr⟩, hfr.trans q3 (Nat.le_refl _) (Nat.le_refl _)⟩
      · exact absurd (by rw [nI_leI (by omega) (by omega)]; omega) hb
    | succ k ih =>
      intro j F1 z3 z4 hj hb9 hM2 hfr
      have hjl : j < X.sg.J.length := by omega
      obtain ⟨h0, h1, hR⟩ := id hM2
      have inner : ∀ k2 b, b + k2 = X.sg.J.length → AF G mX9_jetByPosition 3 0 0 (MQq G m X (if (fnd (fun j => decide (nI (rnk X.sg.J j) = x)) X.sg.J.length).isSome = true then 0 else 1) (nI ((fnd (fun j => decide (nI (rnk X.sg.J j) = x)) X.sg.J.length).getD 0)) F) F1 22 [some (.ref m), some (.int x), some (.int (nI j)), some (.int (nI (cntB (fun o => decide (jp X.sg.J o < jp X.sg.J j)) b))), some (.int (nI b))] [] := by
        intro k2
        induction k2 with
        | zero =>
          intro b hb0
          refine AF.iload dX9_jetByPosition_22 rfl ?_
          refine AF.aload_n dX9_jetByPosition_24 rfl ?_
          refine AF.getfield dX9_jetByPosition_25 fl_X9_7 (by assumption) rfl ?_
          refine AF.iconst (nI 0) dX9_jetByPosition_28 (by decide) ?_
          refine AF.iaload (_) dX9_jetByPosition_29 (by assumption) rfl (by omega) (by decide) ?_
          rw [hS.1.1]
          refine AF.icmp_ge 61 dX9_jetByPosition_30 (by decide) (fun hb => ?_) (fun hb => ?_)
          · rw [show b = X.sg.J.length by omega, show cntB (fun o => decide (jp X.sg.J o < jp X.sg.J j)) X.sg.J.length = rnk X.sg.J j from rfl]
            refine AF.iload_n dX9_jetByPosition_61 rfl ?_
            refine AF.iload_n dX9_jetByPosition_62 rfl ?_
            refine AF.icmp_ne 68 dX9_jetByPosition_63 (by decide) (fun hc => ?_) (fun hc => ?_)
            · refine AF.inc1 dX9_jetByPosition_68 rfl (by decide) ?_
              refine AF.goto 7 dX9_jetByPosition_71 (by decide) ?_
              refine ih (j + 1) F1 _ _ (by omega) (fun i hi => ?_) hM2 hfr
              by_cases e : i = j
              · rw [e]; exact decide_eq_false hc
              · exact hb9 i (by omega)
            · rw [fnd_some (decide_eq_true hc) hjl hb9]
              refine AF.iload_n dX9_jetByPosition_66 rfl ?_
              exact AF.ireturn dX9_jetByPosition_67 rfl ⟨rfl, ⟨_, f, A, hM2, hS, rfl, hr⟩, hfr⟩
          · exact absurd (by rw [nI_leI (by omega) (by omega)]; omega) hb
        | succ k2 ih2 =>
          intro b hb0
          have h9 := ih2 (b + 1) (by omega)
          simp only [cntB] at h9
          have v1 := (hI.1.1 b).1
          have v2 := (hI.1.1 j).1
          refine AF.iload dX9_jetByPosition_22 rfl ?_
          refine AF.aload_n dX9_jetByPosition_24 rfl ?_
          refine AF.getfield dX9_jetByPosition_25 fl_X9_7 (by assumption) rfl ?_
          refine AF.iconst (nI 0) dX9_jetByPosition_28 (by decide) ?_
          refine AF.iaload (_) dX9_jetByPosition_29 (by assumption) rfl (by omega) (by decide) ?_
          rw [hS.1.1]
          refine AF.icmp_ge 61 dX9_jetByPosition_30 (by decide) (fun hb => ?_) (fun hb => ?_)
          · rw [nI_leI (by omega) (by omega)] at hb
            omega
          · refine AF.iload_n dX9_jetByPosition_33 rfl ?_
            refine AF.aload_n dX9_jetByPosition_34 rfl ?_
            refine AF.iload dX9_jetByPosition_35 rfl ?_
            refine AF.v1 dX9_jetByPosition_37 kv_X9_68 ((hpl F1 hM2 b (by omega))) (by assumption) rfl rfl rfl (Nat.le_of_ble_eq_true rfl) (by decide) rfl ?_
            refine AF.aload_n dX9_jetByPosition_40 rfl ?_
            refine AF.iload_n dX9_jetByPosition_41 rfl ?_
            refine AF.v1 dX9_jetByPosition_42 kv_X9_68 ((hpl F1 hM2 j (by omega))) (by assumption) rfl rfl rfl (Nat.le_of_ble_eq_true rfl) (by decide) rfl ?_
            refine AF.icmp_ge 52 dX9_jetByPosition_45 (by decide) (fun hc => ?_) (fun hc => ?_)
            · rw [nI_leI (by omega) (by omega)] at hc
              rw [if_neg (show ¬ decide (jp X.sg.J b < jp X.sg.J j) = true by rw [decide_eq_true_iff]; omega)] at h9
              refine AF.iconst (nI 0) dX9_jetByPosition_52 (by decide) ?_
              refine AF.iadd dX9_jetByPosition_53 ?_
              rw [nI_add]
              refine AF.istore_n dX9_jetByPosition_54 (by decide) ?_
              refine AF.inc1 dX9_jetByPosition_55 rfl (by decide) ?_
              refine AF.goto 22 dX9_jetByPosition_58 (by decide) ?_
              exact h9
            · rw [nI_leI (by omega) (by omega)] at hc
              rw [if_pos (show decide (jp X.sg.J b < jp X.sg.J j) = true by rw [decide_eq_true_iff]; omega)] at h9
              refine AF.iconst (nI 1) dX9_jetByPosition_48 (by decide) ?_
              refine AF.goto 53 dX9_jetByPosition_49 (by decide) ?_
              refine AF.iadd dX9_jetByPosition_53 ?_
              rw [nI_add]
              refine AF.istore_n dX9_jetByPosition_54 (by decide) ?_
              refine AF.inc1 dX9_jetByPosition_55 rfl (by decide) ?_
              refine AF.goto 22 dX9_jetByPosition_58 (by decide) ?_
              exact h9
      refine AF.iload_n dX9_jetByPosition_7 rfl ?_
      refine AF.aload_n dX9_jetByPosition_8 rfl ?_
      refine AF.getfield dX9_jetByPosition_9 fl_X9_7 (by assumption) rfl ?_
      refine AF.iconst (nI 0) dX9_jetByPosition_12 (by decide) ?_
      refine AF.iaload (_) dX9_jetByPosition_13 (by assumption) rfl (by omega) (by decide) ?_
      rw [hS.1.1]
      refine AF.icmp_ge 74 dX9_jetByPosition_14 (by decide) (fun hb => ?_) (fun hb => ?_)
      · rw [nI_leI (by omega) (by omega)] at hb
        omega
      · refine AF.iconst (nI 0) dX9_jetByPosition_17 (by decide) ?_
        refine AF.istore_n dX9_jetByPosition_18 (by decide) ?_
        refine AF.iconst (nI 0) dX9_jetByPosition_19 (by decide) ?_
        refine AF.istore dX9_jetByPosition_20 (by decide) ?_
        exact inner X.sg.J.length 0 (by omega)
  obtain ⟨h0, h1, hR⟩ := hM
  refine AF.aload_n dX9_jetByPosition_0 rfl ?_
  refine AF.iconst (nI 0) dX9_jetByPosition_1 (by decide) ?_
  refine AF.putfieldF dX9_jetByPosition_2 fp_X9_41 h0 (by omega) (Nat.le_of_ble_eq_true rfl) rfl rfl (Or.inr fq_6_0) ?_
  intro F e9 h9 o9
  replace h1 := (o9 (m + 1) (by omega)).trans h1
  replace hR := hR.kept (fun q h1 h2 => o9 q (by omega))
  replace h0 := h9
  replace hfr := hfr.step e9 (by omega) (by omega) o9
  clear e9 h9 o9
  refine AF.iconst (nI 0) dX9_jetByPosition_5 (by decide) ?_
  refine AF.istore_n dX9_jetByPosition_6 (by decide) ?_
  exact loop X.sg.J.length 0 F none none (by omega) (fun i hi => absurd hi (Nat.not_lt_zero _)) ⟨h0, h1, hR⟩ hfr
set_option maxRecDepth 100000 in
theorem X9_crossings_ok (hM : MX G F m X th) (ha : gN G ≤ m) (hI : SQ X.sg B) : AC G mX9_crossings 5 0 0 [.ref m] F (MQq G m X 0 (nI (prs X.sg.J X.sg.cap X.sg.w)) F) := by
  obtain ⟨g, f, A, hM, hS, -, hr⟩ := hM
  have hn := hS.2.1.1
  refine AC.of [some (.ref m), none, none, none] rfl (by decide) (Nat.le_of_ble_eq_true rfl) rfl ?_
  have hfr : Fr m (m + 9) F F := Fr.rf
  have hpl : ∀ F1, MA G F1 m (upd g 0 (nI 0)) f A → ∀ j, j < X.sg.J.length → AC G mX9_place 0 0 0 [.ref m, .int (nI j)] F1 (AV (some (.int (nI (jp X.sg.J j)))) F1) := fun F1 h j hj => by
    have := X9_place_ok h j (by omega)
    rw [(hS.2.1.2 j hj).1] at this
    exact this
  have loop : ∀ k j F1 z3, j + k = X.sg.J.length → MA G F1 m (upd g 0 (nI 0)) f A → Fr m (m + 9) F F1 → AF G mX9_crossings 5 0 0 (MQq G m X 0 (nI (prs X.sg.J X.sg.cap X.sg.w)) F) F1 9 [some (.ref m), some (.int (nI (sumN (fun j => cntB (crs X.sg.J X.sg.cap X.sg.w j) X.sg.J.length) j))), some (.int (nI j)), z3] [] := by
    intro k
    induction k with
    | zero =>
      intro j F1 z3 hj hM2 hfr
      obtain ⟨h0, h1, hR⟩ := id hM2
      refine AF.iload_n dX9_crossings_9 rfl ?_
      refine AF.aload_n dX9_crossings_10 rfl ?_
      refine AF.getfield dX9_crossings_11 fl_X9_7 (by assumption) rfl ?_
      refine AF.iconst (nI 0) dX9_crossings_14 (by decide) ?_
      refine AF.iaload (_) dX9_crossings_15 (by assumption) rfl (by omega) (by decide) ?_
      rw [hS.1.1]
      refine AF.icmp_ge 77 dX9_crossings_16 (by decide) (fun hb => ?_) (fun hb => ?_)
      · rw [show j = X.sg.J.length by omega]
        refine AF.iload_n dX9_crossings_77 rfl ?_
        exact AF.ireturn dX9_crossings_78 rfl ⟨rfl, ⟨_, f, A, hM2, hS, rfl, hr⟩, hfr⟩
      · exact absurd (by rw [nI_leI (by omega) (by omega)]; omega) hb
    | succ k ih =>
      intro j F1 z3 hj hM2 hfr
      have hjl : j < X.sg.J.length := by omega
      obtain ⟨h0, h1, hR⟩ := id hM2
      have inner : ∀ k2 b, b + k2 = X.sg.J.length → AF G mX9_crossings 5 0 0 (MQq G m X 0 (nI (prs X.sg.J X.sg.cap X.sg.w)) F) F1 21 [some (.ref m), some (.int (nI (sumN (fun j => cntB (crs X.sg.J X.sg.cap X.sg.w j) X.sg.J.length) j + cntB (crs X.sg.J X.sg.cap X.sg.w j) b))), some (.int (nI j)), some (.int (nI b))] [] := by
        intro k2
        induction k2 with
        | zero =>
          intro b hb0
          refine AF.iload_n dX9_crossings_21 rfl ?_
          refine AF.aload_n dX9_crossings_22 rfl ?_
          refine AF.getfield dX9_crossings_23 fl_X9_7 (by assumption) rfl ?_
          refine AF.iconst (nI 0) dX9_crossings_26 (by decide) ?_
          refine AF.iaload (_) dX9_crossings_27 (by assumption) rfl (by omega) (by decide) ?_
          rw [hS.1.1]
          refine AF.icmp_ge 71 dX9_crossings_28 (by decide) (fun hb => ?_) (fun hb => ?_)
          · rw [show b = X.sg.J.length by omega]
            refine AF.inc1 dX9_crossings_71 rfl (by decide) ?_
            refine AF.goto 9 dX9_crossings_74 (by decide) ?_
            exact ih (j + 1) F1 _ (by omega) hM2 hfr
          · exact absurd (by rw [nI_leI (by omega) (by omega)]; omega) hb
        | succ k2 ih2 =>
          intro b hb0
          have h9 := ih2 (b + 1) (by omega)
          simp only [cntB] at h9
          have v1 := (hI.1.1 b).1
          have v2 := (hI.1.1 j).1
          refine AF.iload_n dX9_crossings_21 rfl ?_
          refine AF.aload_n dX9_crossings_22 rfl ?_
          refine AF.getfield dX9_crossings_23 fl_X9_7 (by assumption) rfl ?_
          refine AF.iconst (nI 0) dX9_crossings_26 (by decide) ?_
          refine AF.iaload (_) dX9_crossings_27 (by assumption) rfl (by omega) (by decide) ?_
          rw [hS.1.1]
          refine AF.icmp_ge 71 dX9_crossings_28 (by decide) (fun hb => ?_) (fun hb => ?_)
          · rw [nI_leI (by omega) (by omega)] at hb
            omega
          · refine AF.iload_n dX9_crossings_31 rfl ?_
            refine AF.aload_n dX9_crossings_32 rfl ?_
            refine AF.iload_n dX9_crossings_33 rfl ?_
            refine AF.v1 dX9_crossings_34 kv_X9_68 ((hpl F1 hM2 j (by omega))) (by assumption) rfl rfl rfl (Nat.le_of_ble_eq_true rfl) (by decide) rfl ?_
            refine AF.aload_n dX9_crossings_37 rfl ?_
            refine AF.iload_n dX9_crossings_38 rfl ?_
            refine AF.v1 dX9_crossings_39 kv_X9_68 ((hpl F1 hM2 b (by omega))) (by assumption) rfl rfl rfl (Nat.le_of_ble_eq_true rfl) (by decide) rfl ?_
            refine AF.icmp_ge 62 dX9_crossings_42 (by decide) (fun hc => ?_) (fun hc => ?_)
            · rw [nI_leI (by omega) (by omega)] at hc
              rw [if_neg (by simp only [crs, Bool.and_eq_true, decide_eq_true_iff]; omega)] at h9
              refine AF.iconst (nI 0) dX9_crossings_62 (by decide) ?_
              refine AF.iadd dX9_crossings_63 ?_
              rw [nI_add]
              refine AF.istore_n dX9_crossings_64 (by decide) ?_
              refine AF.inc1 dX9_crossings_65 rfl (by decide) ?_
              refine AF.goto 21 dX9_crossings_68 (by decide) ?_
              exact h9
            · rw [nI_leI (by omega) (by omega)] at hc
              refine AF.aload_n dX9_crossings_45 rfl ?_
              refine AF.iload_n dX9_crossings_46 rfl ?_
              refine AF.v1 dX9_crossings_47 kv_X9_74 ((X9_lands_ok hM2 hS hI.1 j hjl)) (by assumption) rfl rfl rfl (Nat.le_of_ble_eq_true rfl) (by decide) rfl ?_
              refine AF.aload_n dX9_crossings_50 rfl ?_
              refine AF.iload_n dX9_crossings_51 rfl ?_
              refine AF.v1 dX9_crossings_52 kv_X9_74 ((X9_lands_ok hM2 hS hI.1 b (by omega))) (by assumption) rfl rfl rfl (Nat.le_of_ble_eq_true rfl) (by decide) rfl ?_
              refine AF.icmp_le 62 dX9_crossings_55 (by decide) (fun hc2 => ?_) (fun hc2 => ?_)
              · rw [if_neg (by simp only [crs, Bool.and_eq_true, decide_eq_true_iff]; exact fun q => absurd q.2 (Int32.not_lt.mpr hc2))] at h9
                refine AF.iconst (nI 0) dX9_crossings_62 (by decide) ?_
                refine AF.iadd dX9_crossings_63 ?_
                rw [nI_add]
                refine AF.istore_n dX9_crossings_64 (by decide) ?_
                refine AF.inc1 dX9_crossings_65 rfl (by decide) ?_
                refine AF.goto 21 dX9_crossings_68 (by decide) ?_
                exact h9
              · rw [if_pos (by simp only [crs, Bool.and_eq_true, decide_eq_true_iff]; exact ⟨by omega, Int32.not_le.mp hc2⟩), ← Nat.add_assoc] at h9
                refine AF.iconst (nI 1) dX9_crossings_58 (by decide) ?_
                refine AF.goto 63 dX9_crossings_59 (by decide) ?_
                refine AF.iadd dX9_crossings_63 ?_
                rw [nI_add]
                refine AF.istore_n dX9_crossings_64 (by decide) ?_
                refine AF.inc1 dX9_crossings_65 rfl (by decide) ?_
                refine AF.goto 21 dX9_crossings_68 (by decide) ?_
                exact h9
      refine AF.iload_n dX9_crossings_9 rfl ?_
      refine AF.aload_n dX9_crossings_10 rfl ?_
      refine AF.getfield dX9_crossings_11 fl_X9_7 (by assumption) rfl ?_
      refine AF.iconst (nI 0) dX9_crossings_14 (by decide) ?_
      refine AF.iaload (_) dX9_crossings_15 (by assumption) rfl (by omega) (by decide) ?_
      rw [hS.1.1]
      refine AF.icmp_ge 77 dX9_crossings_16 (by decide) (fun hb => ?_) (fun hb => ?_)
      · rw [nI_leI (by omega) (by omega)] at hb
        omega
      · refine AF.iconst (nI 0) dX9_crossings_19 (by decide) ?_
        refine AF.istore_n dX9_crossings_20 (by decide) ?_
        exact inner X.sg.J.length 0 (by omega)
  obtain ⟨h0, h1, hR⟩ := hM
  refine AF.aload_n dX9_crossings_0 rfl ?_
  refine AF.iconst (nI 0) dX9_crossings_1 (by decide) ?_
  refine AF.putfieldF dX9_crossings_2 fp_X9_41 h0 (by omega) (Nat.le_of_ble_eq_true rfl) rfl rfl (Or.inr fq_6_0) ?_
  intro F e9 h9 o9
  replace h1 := (o9 (m + 1) (by omega)).trans h1
  replace hR := hR.kept (fun q h1 h2 => o9 q (by omega))
  replace h0 := h9
  replace hfr := hfr.step e9 (by omega) (by omega) o9
  clear e9 h9 o9
  refine AF.iconst (nI 0) dX9_crossings_5 (by decide) ?_
  refine AF.istore_n dX9_crossings_6 (by decide) ?_
  refine AF.iconst (nI 0) dX9_crossings_7 (by decide) ?_
  refine AF.istore_n dX9_crossings_8 (by decide) ?_
  exact loop X.sg.J.length 0 F none (by omega) ⟨h0, h1, hR⟩ hfr
set_option maxRecDepth 100000 in
theorem X9_crossingsByMerging_ok (hM : MX G F m X th) (ha : gN G ≤ m) (hI : SQ X.sg B) : AC G mX9_crossingsByMerging 6 0 0 [.ref m] F (MQq G m X 0 (nI (prs X.sg.J X.sg.cap X.sg.w)) F) := by
  have hT := X9_crossings_ok hM ha hI
  obtain ⟨g, f, A, ⟨h0, h1, hR⟩, hS, -, hr⟩ := hM
  refine AC.of [some (.ref m)] rfl (by decide) (Nat.le_of_ble_eq_true rfl) rfl ?_
  refine AF.aload_n dX9_crossingsByMerging_0 rfl ?_
  refine AF.vw dX9_crossingsByMerging_1 kv_X9_147 (hT) (by assumption) rfl rfl rfl (Nat.le_of_ble_eq_true rfl) (by decide) rfl (fun E F9 q => nomatch q.1) (fun v F q => ?_)
  obtain ⟨q, q2⟩ := q
  cases q
  exact AF.ireturn dX9_crossingsByMerging_4 rfl ⟨rfl, q2⟩
set_option maxRecDepth 100000 in
theorem X9_uses_ok (hM : MA G F m g f A) (hS : SG σ.Fg f) {n : Nat} (hI : FI σ.Fg n) (hn : n ≤ 10) (i : Nat) (hi : i < σ.Fg.length) (x : Nat) (hx : x < 10) : AC G mX9_uses 1 0 0 [.ref m, .int (nI i), .int (nI x)] F (AV (some (.int (bI (fus (fg σ.Fg i) x)))) F) := by
  have h5 := hS.1
  obtain ⟨h8, hsc, hrow⟩ := hS.2 i hi
  have hV := X9_steps_ok hM i (by omega)
  have hA := fun k hk => X9_at_ok hM i k 1 (by omega) hk (by omega)
  rw [hsc] at hV
  obtain ⟨h0, h1, hR⟩ := hM
  refine AC.of [some (.ref m), some (.int (nI i)), some (.int (nI x)), none] rfl (by decide) (Nat.le_of_ble_eq_true rfl) rfl ?_
  have loop : ∀ k j, j + k = (fg σ.Fg i).length → (∀ m, m < j → decide ((g3 (fg σ.Fg i) m).2.1 = x) = false) → AF G mX9_uses 1 0 0 (AV (some (.int (bI (fus (fg σ.Fg i) x)))) F) F 2 [some (.ref m), some (.int (nI i)), some (.int (nI x)), some (.int (nI j))] [] := by
    intro k
    induction k with
    | zero =>
      intro j hj hb9
      refine AF.iload_n dX9_uses_2 rfl ?_
      refine AF.aload_n dX9_uses_3 rfl ?_
      refine AF.iload_n dX9_uses_4 rfl ?_
      refine AF.v1 dX9_uses_5 kv_X9_77 (hV) (by assumption) rfl rfl rfl (Nat.le_of_ble_eq_true rfl) (by decide) rfl ?_
      refine AF.icmp_ge 30 dX9_uses_8 (by decide) (fun hb => ?_) (fun hb => ?_)
      · refine AF.iconst (0) dX9_uses_30 (by decide) ?_
        exact AF.zreturn dX9_uses_31 rfl rfl ⟨by rw [fus, fnd_none (fun m hm => hb9 m (by omega))]; rfl, rfl⟩
      · exact absurd (by rw [nI_leI (by omega) (by omega)]; omega) hb
    | succ k ih =>
      intro j hj hb9
      have q1 := (hI i j (by omega)).2.1
      have hA := hA j (by omega)
      rw [(hrow j (by omega)).2.1] at hA
      refine AF.iload_n dX9_uses_2 rfl ?_
      refine AF.aload_n dX9_uses_3 rfl ?_
      refine AF.iload_n dX9_uses_4 rfl ?_
      refine AF.v1 dX9_uses_5 kv_X9_77 (hV) (by assumption) rfl rfl rfl (Nat.le_of_ble_eq_true rfl) (by decide) rfl ?_
      refine AF.icmp_ge 30 dX9_uses_8 (by decide) (fun hb => ?_) (fun hb => ?_)
      · rw [nI_leI (by omega) (by omega)] at hb
        omega
      · refine AF.aload_n dX9_uses_11 rfl ?_
        refine AF.iload_n dX9_uses_12 rfl ?_
        refine AF.iload_n dX9_uses_13 rfl ?_
        refine AF.iconst (nI 1) dX9_uses_14 (by decide) ?_
        refine AF.v1 dX9_uses_15 kv_X9_80 (hA) (by assumption) rfl rfl rfl (Nat.le_of_ble_eq_true rfl) (by decide) rfl ?_
        refine AF.iload_n dX9_uses_18 rfl ?_
        refine AF.icmp_ne 24 dX9_uses_19 (by decide) (fun hc => ?_) (fun hc => ?_)
        · rw [nI_eq (by omega) (by omega)] at hc
          refine AF.inc1 dX9_uses_24 rfl (by decide) ?_
          refine AF.goto 2 dX9_uses_27 (by decide) ?_
          refine ih (j + 1) (by omega) (fun m hm => ?_)
          by_cases e : m = j
          · rw [e]; exact decide_eq_false hc
          · exact hb9 m (by omega)
        · rw [nI_eq (by omega) (by omega)] at hc
          refine AF.iconst (1) dX9_uses_22 (by decide) ?_
          exact AF.zreturn dX9_uses_23 rfl rfl ⟨by rw [fus, fnd_some (decide_eq_true hc) (by omega) hb9]; rfl, rfl⟩
  refine AF.iconst (0) dX9_uses_0 (by decide) ?_
  refine AF.istore_n dX9_uses_1 (by decide) ?_
  exact loop (fg σ.Fg i).length 0 (by omega) (fun i hi => by omega)
set_option maxRecDepth 100000 in
theorem X9_figuresUsing_ok {F0 : AH} (hM : MX G F0 m X th) (ha : gN G ≤ m) (hI : SQ X.sg B) (x : Int32) : AC G mX9_figuresUsing 3 0 0 [.ref m, .int x] F0 (MQq G m X (if hasB X.sg.J.length x = true then 0 else 1) (nI (cntB (fun i => fus (fg X.sg.Fg i) (cl x)) X.sg.Fg.length)) F0) := by
  obtain ⟨g, f, A, hM, hS, -, hr⟩ := hM
  have hM0 := hM
  obtain ⟨h0, h1, hR⟩ := hM
  refine AC.of [some (.ref m), some (.int x), none, none] rfl (by decide) (Nat.le_of_ble_eq_true rfl) rfl ?_
  have hfr : Fr m (m + 9) F0 F0 := Fr.rf
  have hn := hS.2.1.1
  have h5 := hS.2.2.1.1
  refine AF.aload_n dX9_figuresUsing_0 rfl ?_
  refine AF.iload_n dX9_figuresUsing_1 rfl ?_
  refine AF.vw dX9_figuresUsing_2 kv_X9_140 (X9_isAsked_ok hM0 ha hS x) (by assumption) rfl rfl rfl (Nat.le_of_ble_eq_true rfl) (by decide) rfl (fun E F9 q => nomatch q.1) (fun v F q => ?_)
  obtain ⟨q, hM2, q2⟩ := q
  cases q
  obtain ⟨h0, h1, hR⟩ := id hM2
  refine AF.if_ne 10 dX9_figuresUsing_5 (by decide) (fun c1 => ?_) (fun c1 => ?_)
  · have c1 := bI_n c1
    rw [c1] at hM2 ⊢
    obtain ⟨x, hx, rfl⟩ := hasB_nI (by omega) c1
    rw [cl_nI (by omega)]
    rw [if_pos rfl]
    have loop : ∀ k j, j + k = X.sg.Fg.length → AF G mX9_figuresUsing 3 0 0 (MQq G m X 0 (nI (cntB (fun i => fus (fg X.sg.Fg i) x) X.sg.Fg.length)) F0) F 14 [some (.ref m), some (.int (nI x)), some (.int (nI (cntB (fun i => fus (fg X.sg.Fg i) x) j))), some (.int (nI j))] [] := by
      intro k
      induction k with
      | zero =>
        intro j hj
        refine AF.iload_n dX9_figuresUsing_14 rfl ?_
        refine AF.aload_n dX9_figuresUsing_15 rfl ?_
        refine AF.getfield dX9_figuresUsing_16 fl_X9_7 (by assumption) rfl ?_
        refine AF.iconst (nI 1) dX9_figuresUsing_19 (by decide) ?_
        refine AF.iaload (_) dX9_figuresUsing_20 (by assumption) rfl (by omega) (by decide) ?_
        rw [hS.1.2.1]
        refine AF.icmp_ge 47 dX9_figuresUsing_21 (by decide) (fun hb => ?_) (fun hb => ?_)
        · rw [show j = X.sg.Fg.length by omega]
          refine AF.iload_n dX9_figuresUsing_47 rfl ?_
          exact AF.ireturn dX9_figuresUsing_48 rfl ⟨rfl, ⟨_, f, A, hM2, hS, rfl, hr⟩, q2⟩
        · exact absurd (by rw [nI_leI (by omega) (by omega)]; omega) hb
      | succ k ih =>
        intro j hj
        have h9 := ih (j + 1) (by omega)
        simp only [cntB] at h9
        refine AF.iload_n dX9_figuresUsing_14 rfl ?_
        refine AF.aload_n dX9_figuresUsing_15 rfl ?_
        refine AF.getfield dX9_figuresUsing_16 fl_X9_7 (by assumption) rfl ?_
        refine AF.iconst (nI 1) dX9_figuresUsing_19 (by decide) ?_
        refine AF.iaload (_) dX9_figuresUsing_20 (by assumption) rfl (by omega) (by decide) ?_
        rw [hS.1.2.1]
        refine AF.icmp_ge 47 dX9_figuresUsing_21 (by decide) (fun hb => ?_) (fun hb => ?_)
        · rw [nI_leI (by omega) (by omega)] at hb
          omega
        · refine AF.iload_n dX9_figuresUsing_24 rfl ?_
          refine AF.aload_n dX9_figuresUsing_25 rfl ?_
          refine AF.iload_n dX9_figuresUsing_26 rfl ?_
          refine AF.iload_n dX9_figuresUsing_27 rfl ?_
          refine AF.v1 dX9_figuresUsing_28 kv_X9_175 ((X9_uses_ok hM2 hS.2.2.1 hI.1.2.2.1 hn j (by omega) x (by omega))) (by assumption) rfl rfl rfl (Nat.le_of_ble_eq_true rfl) (by decide) rfl ?_
          refine AF.if_eq 38 dX9_figuresUsing_31 (by decide) (fun hc => ?_) (fun hc => ?_)
          · rw [if_neg (by rw [bI_z hc]; decide)] at h9
            refine AF.iconst (nI 0) dX9_figuresUsing_38 (by decide) ?_
            refine AF.iadd dX9_figuresUsing_39 ?_
            rw [nI_add]
            refine AF.istore_n dX9_figuresUsing_40 (by decide) ?_
            refine AF.inc1 dX9_figuresUsing_41 rfl (by decide) ?_
            refine AF.goto 14 dX9_figuresUsing_44 (by decide) ?_
            exact h9
          · rw [if_pos (bI_n hc)] at h9
            refine AF.iconst (nI 1) dX9_figuresUsing_34 (by decide) ?_
            refine AF.goto 39 dX9_figuresUsing_35 (by decide) ?_
            refine AF.iadd dX9_figuresUsing_39 ?_
            rw [nI_add]
            refine AF.istore_n dX9_figuresUsing_40 (by decide) ?_
            refine AF.inc1 dX9_figuresUsing_41 rfl (by decide) ?_
            refine AF.goto 14 dX9_figuresUsing_44 (by decide) ?_
            exact h9
    refine AF.iconst (nI 0) dX9_figuresUsing_10 (by decide) ?_
    refine AF.istore_n dX9_figuresUsing_11 (by decide) ?_
    refine AF.iconst (nI 0) dX9_figuresUsing_12 (by decide) ?_
    refine AF.istore_n dX9_figuresUsing_13 (by decide) ?_
    exact loop X.sg.Fg.length 0 (by omega)
  · have c1 := bI_z c1
    rw [c1] at hM2 ⊢
    refine AF.iconst (nI 0) dX9_figuresUsing_8 (by decide) ?_
    exact AF.ireturn dX9_figuresUsing_9 rfl ⟨rfl, ⟨_, f, A, hM2, hS, rfl, hr⟩, q2⟩
set_option maxRecDepth 100000 in
theorem X9_beatsUntilEmpty_ok (hM : MX G F m X th) (ha : gN G ≤ m) (hI : SQ X.sg B) : AC G mX9_beatsUntilEmpty 3 0 0 [.ref m] F (MQq G m X 0 (nI (btq X.sg)) F) := by
  obtain ⟨g, f, A, hM, hS, -, hr⟩ := hM
  have h6 := hS.2.2.2.1
  obtain ⟨-, i2, i3, i4, i5, i6, i7, i8⟩ := hI.1
  have hbb : ∀ e, e < X.sg.E.length → (en X.sg.E e).2 + fln (fg X.sg.Fg (en X.sg.E e).1) ≤ B + 50 := fun e he => by
    have := (i4 e he).2
    have := fln_le (L := fg X.sg.Fg (en X.sg.E e).1) (fun k hk => (i3 _ k hk).1)
    omega
  refine AC.of [some (.ref m), none, none] rfl (by decide) (Nat.le_of_ble_eq_true rfl) rfl ?_
  have hfr : Fr m (m + 9) F F := Fr.rf
  have loop : ∀ k j F1, ¬ X.sg.E.length = 0 → j + k = X.sg.E.length → MA G F1 m (upd g 0 (nI 0)) f A → Fr m (m + 9) F F1 → AF G mX9_beatsUntilEmpty 3 0 0 (MQq G m X 0 (nI (btq X.sg)) F) F1 22 [some (.ref m), some (.int (nI (mx1 (bte X.sg) j))), some (.int (nI j))] [] := by
    intro k
    induction k with
    | zero =>
      intro j F1 hne hj hM2 hfr
      obtain ⟨h0, h1, hR⟩ := id hM2
      refine AF.iload_n dX9_beatsUntilEmpty_22 rfl ?_
      refine AF.aload_n dX9_beatsUntilEmpty_23 rfl ?_
      refine AF.getfield dX9_beatsUntilEmpty_24 fl_X9_7 (by assumption) rfl ?_
      refine AF.iconst (nI 2) dX9_beatsUntilEmpty_27 (by decide) ?_
      refine AF.iaload (_) dX9_beatsUntilEmpty_28 (by assumption) rfl (by omega) (by decide) ?_
      rw [hS.1.2.2.1]
      refine AF.icmp_ge 71 dX9_beatsUntilEmpty_29 (by decide) (fun hb => ?_) (fun hb => ?_)
      · refine AF.iload_n dX9_beatsUntilEmpty_71 rfl ?_
        refine AF.ireturn dX9_beatsUntilEmpty_72 rfl ⟨?_, ⟨_, f, A, hM2, hS, rfl, hr⟩, hfr⟩
        rw [btq, if_neg hne, show j = X.sg.E.length by omega]; rfl
      · exact absurd (by rw [nI_leI (by omega) (by omega)]; omega) hb
    | succ k ih =>
      intro j F1 hne hj hM2 hfr
      have hjE : j < X.sg.E.length := by omega
      have hr1 := mx1_le (g := bte X.sg) (b := B + 50) (by omega) j (fun i hi => by have := hbb i (by omega); unfold bte; omega)
      have hbj := hbb j hjE
      have hD := X9_due_ok (σ := X.sg) hM2 hS.2.2.1 i3 j (en X.sg.E j).1 (en X.sg.E j).2 (by omega) (i4 j hjE).1 (hS.2.2.2.2 j hjE).1 (hS.2.2.2.2 j hjE).2
      have hms := max_sub (r := mx1 (bte X.sg) j) (t := (en X.sg.E j).2 + fln (fg X.sg.Fg (en X.sg.E j).1)) (b := X.sg.bt) hr1.1 (by omega) (by omega) (by omega)
      obtain ⟨h0, h1, hR⟩ := id hM2
      have h9 := ih (j + 1) F1 hne (by omega) hM2 hfr
      rw [show mx1 (bte X.sg) (j + 1) = (if mx1 (bte X.sg) j < (en X.sg.E j).2 + fln (fg X.sg.Fg (en X.sg.E j).1) - X.sg.bt then (en X.sg.E j).2 + fln (fg X.sg.Fg (en X.sg.E j).1) - X.sg.bt else mx1 (bte X.sg) j) from rfl, ← hms] at h9
      refine AF.iload_n dX9_beatsUntilEmpty_22 rfl ?_
      refine AF.aload_n dX9_beatsUntilEmpty_23 rfl ?_
      refine AF.getfield dX9_beatsUntilEmpty_24 fl_X9_7 (by assumption) rfl ?_
      refine AF.iconst (nI 2) dX9_beatsUntilEmpty_27 (by decide) ?_
      refine AF.iaload (_) dX9_beatsUntilEmpty_28 (by assumption) rfl (by omega) (by decide) ?_
      rw [hS.1.2.2.1]
      refine AF.icmp_ge 71 dX9_beatsUntilEmpty_29 (by decide) (fun hb => ?_) (fun hb => ?_)
      · rw [nI_leI (by omega) (by omega)] at hb
        omega
      · refine AF.aload_n dX9_beatsUntilEmpty_32 rfl ?_
        refine AF.iload_n dX9_beatsUntilEmpty_33 rfl ?_
        refine AF.v1 dX9_beatsUntilEmpty_34 kv_X9_115 (hD) (by assumption) rfl rfl rfl (Nat.le_of_ble_eq_true rfl) (by decide) rfl ?_
        refine AF.aload_n dX9_beatsUntilEmpty_37 rfl ?_
        refine AF.getfield dX9_beatsUntilEmpty_38 fl_X9_7 (by assumption) rfl ?_
        refine AF.iconst (nI 5) dX9_beatsUntilEmpty_41 (by decide) ?_
        refine AF.iaload (_) dX9_beatsUntilEmpty_42 (by assumption) rfl (by omega) (by decide) ?_
        rw [hS.1.2.2.2.2.2.1]
        refine AF.isub dX9_beatsUntilEmpty_43 ?_
        refine AF.iload_n dX9_beatsUntilEmpty_44 rfl ?_
        refine AF.icmp_le 63 dX9_beatsUntilEmpty_45 (by decide) (fun hc => ?_) (fun hc => ?_)
        · rw [if_neg (Int32.not_lt.mpr hc)] at h9
          refine AF.iload_n dX9_beatsUntilEmpty_63 rfl ?_
          refine AF.istore_n dX9_beatsUntilEmpty_64 (by decide) ?_
          refine AF.inc1 dX9_beatsUntilEmpty_65 rfl (by decide) ?_
          refine AF.goto 22 dX9_beatsUntilEmpty_68 (by decide) ?_
          exact h9
        · rw [if_pos (Int32.not_le.mp hc)] at h9
          refine AF.aload_n dX9_beatsUntilEmpty_48 rfl ?_
          refine AF.iload_n dX9_beatsUntilEmpty_49 rfl ?_
          refine AF.v1 dX9_beatsUntilEmpty_50 kv_X9_115 (hD) (by assumption) rfl rfl rfl (Nat.le_of_ble_eq_true rfl) (by decide) rfl ?_
          refine AF.aload_n dX9_beatsUntilEmpty_53 rfl ?_
          refine AF.getfield dX9_beatsUntilEmpty_54 fl_X9_7 (by assumption) rfl ?_
          refine AF.iconst (nI 5) dX9_beatsUntilEmpty_57 (by decide) ?_
          refine AF.iaload (_) dX9_beatsUntilEmpty_58 (by assumption) rfl (by omega) (by decide) ?_
          rw [hS.1.2.2.2.2.2.1]
          refine AF.isub dX9_beatsUntilEmpty_59 ?_
          refine AF.goto 64 dX9_beatsUntilEmpty_60 (by decide) ?_
          refine AF.istore_n dX9_beatsUntilEmpty_64 (by decide) ?_
          refine AF.inc1 dX9_beatsUntilEmpty_65 rfl (by decide) ?_
          refine AF.goto 22 dX9_beatsUntilEmpty_68 (by decide) ?_
          exact h9
  obtain ⟨h0, h1, hR⟩ := hM
  refine AF.aload_n dX9_beatsUntilEmpty_0 rfl ?_
  refine AF.iconst (nI 0) dX9_beatsUntilEmpty_1 (by decide) ?_
  refine AF.putfieldF dX9_beatsUntilEmpty_2 fp_X9_41 h0 (by omega) (Nat.le_of_ble_eq_true rfl) rfl rfl (Or.inr fq_6_0) ?_
  intro F e9 h9 o9
  replace h1 := (o9 (m + 1) (by omega)).trans h1
  replace hR := hR.kept (fun q h1 h2 => o9 q (by omega))
  replace h0 := h9
  replace hfr := hfr.step e9 (by omega) (by omega) o9
  clear e9 h9 o9
  refine AF.aload_n dX9_beatsUntilEmpty_5 rfl ?_
  refine AF.getfield dX9_beatsUntilEmpty_6 fl_X9_7 (by assumption) rfl ?_
  refine AF.iconst (nI 2) dX9_beatsUntilEmpty_9 (by decide) ?_
  refine AF.iaload (_) dX9_beatsUntilEmpty_10 (by assumption) rfl (by omega) (by decide) ?_
  rw [hS.1.2.2.1]
  have hM2 : MA G F m (upd g 0 (nI 0)) f A := ⟨h0, h1, hR⟩
  by_cases hc : X.sg.E.length = 0
  · rw [hc]
    refine AF.if_le 18 dX9_beatsUntilEmpty_11 (by decide) (fun hb => ?_) (fun hb => ?_)
    · refine AF.iconst (nI 0) dX9_beatsUntilEmpty_18 (by decide) ?_
      refine AF.istore_n dX9_beatsUntilEmpty_19 (by decide) ?_
      refine AF.iconst (nI 0) dX9_beatsUntilEmpty_20 (by decide) ?_
      refine AF.istore_n dX9_beatsUntilEmpty_21 (by decide) ?_
      refine AF.iload_n dX9_beatsUntilEmpty_22 rfl ?_
      refine AF.aload_n dX9_beatsUntilEmpty_23 rfl ?_
      refine AF.getfield dX9_beatsUntilEmpty_24 fl_X9_7 (by assumption) rfl ?_
      refine AF.iconst (nI 2) dX9_beatsUntilEmpty_27 (by decide) ?_
      refine AF.iaload (_) dX9_beatsUntilEmpty_28 (by assumption) rfl (by omega) (by decide) ?_
      rw [hS.1.2.2.1, hc]
      refine AF.icmp_ge 71 dX9_beatsUntilEmpty_29 (by decide) (fun hb2 => ?_) (fun hb2 => ?_)
      · refine AF.iload_n dX9_beatsUntilEmpty_71 rfl ?_
        refine AF.ireturn dX9_beatsUntilEmpty_72 rfl ⟨?_, ⟨_, f, A, hM2, hS, rfl, hr⟩, hfr⟩
        rw [btq, if_pos hc]; rfl
      · exact absurd (Int32.le_refl _) hb2
    · exact absurd (Int32.le_refl _) hb
  · refine AF.if_le 18 dX9_beatsUntilEmpty_11 (by decide) (fun hb => ?_) (fun hb => ?_)
    · exact absurd hb (nI_nle (by omega) (by omega))
    · refine AF.iconst (nI 1) dX9_beatsUntilEmpty_14 (by decide) ?_
      refine AF.goto 19 dX9_beatsUntilEmpty_15 (by decide) ?_
      refine AF.istore_n dX9_beatsUntilEmpty_19 (by decide) ?_
      refine AF.iconst (nI 0) dX9_beatsUntilEmpty_20 (by decide) ?_
      refine AF.istore_n dX9_beatsUntilEmpty_21 (by decide) ?_
      exact loop X.sg.E.length 0 F hc (by omega) hM2 hfr
set_option maxRecDepth 100000 in
theorem X9_demandAfter_ok {F0 : AH} (hM : MX G F0 m X th) (ha : gN G ≤ m) (hI : SQ X.sg B) (hB : B + 40 ≤ 2 ^ 21) (x : Int32) : AC G mX9_demandAfter 4 0 0 [.ref m, .int x] F0 (MQq G m X (if inB x 0 40 = true then 0 else 1) (nI (dem (nxN X.sg (cl x)).J)) F0) := by
  obtain ⟨g, f, A, hM, hS, -, hr⟩ := hM
  have hn := hS.2.1.1
  obtain ⟨h0, h1, hR⟩ := hM
  refine AC.of [some (.ref m), some (.int x), none, none] rfl (by decide) (Nat.le_of_ble_eq_true rfl) rfl ?_
  have hfr : Fr m (m + 9) F0 F0 := Fr.rf
  refine AF.aload_n dX9_demandAfter_0 rfl ?_
  refine AF.iload_n dX9_demandAfter_1 rfl ?_
  refine AF.iconst (0) dX9_demandAfter_2 (by decide) ?_
  refine AF.bipush (40) dX9_demandAfter_3 (by decide) ?_
  refine AF.s1 dX9_demandAfter_5 kv_X9_57 ((X9_in_ok x 0 40)) rfl rfl (Nat.le_of_ble_eq_true rfl) (by decide) rfl ?_
  refine AF.if_eq 15 dX9_demandAfter_8 (by decide) (fun c1 => ?_) (fun c1 => ?_)
  · have c1 := bI_z c1
    rw [c1]
    refine AF.iconst (nI 1) dX9_demandAfter_15 (by decide) ?_
    refine AF.putfieldF dX9_demandAfter_16 fp_X9_41 h0 (by omega) (Nat.le_of_ble_eq_true rfl) rfl rfl (Or.inr fq_6_0) ?_
    intro F e9 h9 o9
    replace h1 := (o9 (m + 1) (by omega)).trans h1
    replace hR := hR.kept (fun q h1 h2 => o9 q (by omega))
    replace h0 := h9
    replace hfr := hfr.step e9 (by omega) (by omega) o9
    clear e9 h9 o9
    refine AF.aload_n dX9_demandAfter_19 rfl ?_
    refine AF.getfield dX9_demandAfter_20 fl_X9_41 (by assumption) rfl ?_
    have hM2 : MA G F m (upd g 0 (nI 1)) f A := ⟨h0, h1, hR⟩
    refine AF.if_le 28 dX9_demandAfter_23 (by decide) (fun c2 => ?_) (fun c2 => ?_)
    · exact absurd c2 (nI_nle (by omega) (by omega))
    · refine AF.iconst (nI 0) dX9_demandAfter_26 (by decide) ?_
      exact AF.ireturn dX9_demandAfter_27 rfl ⟨rfl, ⟨_, f, A, hM2, hS, rfl, hr⟩, hfr⟩
  · have c1 := bI_n c1
    rw [c1]
    obtain ⟨x, hx, rfl⟩ := inB_nI (n := 40) (by omega) c1
    rw [cl_nI (by omega)]
    refine AF.iconst (nI 0) dX9_demandAfter_11 (by decide) ?_
    refine AF.goto 16 dX9_demandAfter_12 (by decide) ?_
    refine AF.putfieldF dX9_demandAfter_16 fp_X9_41 h0 (by omega) (Nat.le_of_ble_eq_true rfl) rfl rfl (Or.inr fq_6_0) ?_
    intro F e9 h9 o9
    replace h1 := (o9 (m + 1) (by omega)).trans h1
    replace hR := hR.kept (fun q h1 h2 => o9 q (by omega))
    replace h0 := h9
    replace hfr := hfr.step e9 (by omega) (by omega) o9
    clear e9 h9 o9
    refine AF.aload_n dX9_demandAfter_19 rfl ?_
    refine AF.getfield dX9_demandAfter_20 fl_X9_41 (by assumption) rfl ?_
    have hM2 : MA G F m (upd g 0 (nI 0)) f A := ⟨h0, h1, hR⟩
    refine AF.if_le 28 dX9_demandAfter_23 (by decide) (fun c2 => ?_) (fun c2 => ?_)
    · refine AF.aload_n dX9_demandAfter_28 rfl ?_
      refine AF.vw dX9_demandAfter_29 kv_X9_190 (X9_thinks_ok hM2 ha) (by assumption) rfl rfl rfl (Nat.le_of_ble_eq_true rfl) (by decide) rfl (fun E F9 q => nomatch q.1) (fun v F q => ?_)
      obtain ⟨q, hM3, q3⟩ := q
      cases q
      have hfr3 := hfr.trans q3 (Nat.le_refl _) (Nat.le_refl _)
      have loop : ∀ k j F1 f1, j + k = x → SR (nxN X.sg j) f1 → MA G F1 m (upd g 0 (nI 0)) f1 (uA A 4 (cpU f (A 4) 165)) → Fr m (m + 9) F0 F1 → AF G mX9_demandAfter 4 0 0 (MQq G m X 0 (nI (dem (nxN X.sg x).J)) F0) F1 36 [some (.ref m), some (.int (nI x)), some (.int (nI (nxF X.sg j))), some (.int (nI j))] [] := by
        intro k
        induction k with
        | zero =>
          intro j F1 f1 hj hS1 hM2 hfr
          rw [show j = x by omega] at hS1 ⊢
          have hA := X9_asked_ok hM2 hS1
          have hG := X9_forgets_ok hM2 ha
          obtain ⟨h0, h1, hR⟩ := id hM2
          refine AF.iload_n dX9_demandAfter_36 rfl ?_
          refine AF.iload_n dX9_demandAfter_37 rfl ?_
          refine AF.icmp_ge 54 dX9_demandAfter_38 (by decide) (fun hb => ?_) (fun hb => ?_)
          · refine AF.aload_n dX9_demandAfter_54 rfl ?_
            refine AF.v1 dX9_demandAfter_55 kv_X9_64 (hA) (by assumption) rfl rfl rfl (Nat.le_of_ble_eq_true rfl) (by decide) rfl ?_
            refine AF.istore_n dX9_demandAfter_58 (by decide) ?_
            refine AF.aload_n dX9_demandAfter_59 rfl ?_
            refine AF.vw dX9_demandAfter_60 kv_X9_193 (hG) (by assumption) rfl rfl rfl (Nat.le_of_ble_eq_true rfl) (by decide) rfl (fun E F9 q => nomatch q.1) (fun v F q => ?_)
            obtain ⟨q, hM4, q4⟩ := q
            cases q
            refine AF.iload_n dX9_demandAfter_63 rfl ?_
            exact AF.ireturn dX9_demandAfter_64 rfl ⟨rfl, ⟨_, _, _, hM4, hS.kept (fun q hq => by rw [cpU_i hq]; exact cpU_i hq), rfl, hr⟩, hfr.trans q4 (Nat.le_refl _) (Nat.le_refl _)⟩
          · exact absurd (Int32.le_refl _) hb
        | succ k ih =>
          intro j F1 f1 hj hS1 hM2 hfr
          have hP := X9_oneBeat_ok hM2 ha hS1 (SI_nxN hI.1 hn j (by omega)) (by omega)
          obtain ⟨h0, h1, hR⟩ := id hM2
          refine AF.iload_n dX9_demandAfter_36 rfl ?_
          refine AF.iload_n dX9_demandAfter_37 rfl ?_
          refine AF.icmp_ge 54 dX9_demandAfter_38 (by decide) (fun hb => ?_) (fun hb => ?_)
          · rw [nI_leI (by omega) (by omega)] at hb
            omega
          · refine AF.iload_n dX9_demandAfter_41 rfl ?_
            refine AF.aload_n dX9_demandAfter_42 rfl ?_
            refine AF.vw dX9_demandAfter_43 kv_X9_121 (hP) (by assumption) rfl rfl rfl (Nat.le_of_ble_eq_true rfl) (by decide) rfl (fun E F9 q => nomatch q.1) (fun v F q => ?_)
            obtain ⟨q, f', hS2, hM4, q4⟩ := q
            cases q
            refine AF.iadd dX9_demandAfter_46 ?_
            rw [nI_add]
            refine AF.istore_n dX9_demandAfter_47 (by decide) ?_
            refine AF.inc1 dX9_demandAfter_48 rfl (by decide) ?_
            refine AF.goto 36 dX9_demandAfter_51 (by decide) ?_
            exact ih (j + 1) F f' (by omega) hS2 hM4 (hfr.trans q4 (Nat.le_refl _) (Nat.le_refl _))
      refine AF.iconst (nI 0) dX9_demandAfter_32 (by decide) ?_
      refine AF.istore_n dX9_demandAfter_33 (by decide) ?_
      refine AF.iconst (nI 0) dX9_demandAfter_34 (by decide) ?_
      refine AF.istore_n dX9_demandAfter_35 (by decide) ?_
      exact loop x 0 F f (by omega) hS hM3 hfr3
    · exact absurd (Int32.le_refl _) c2
set_option maxRecDepth 100000 in
theorem X9_demandAfterBySteps_ok (hM : MX G F m X th) (ha : gN G ≤ m) (hI : SQ X.sg B) (hB : B + 40 ≤ 2 ^ 21) (x : Int32) : AC G mX9_demandAfterBySteps 5 0 0 [.ref m, .int x] F (MQq G m X (if inB x 0 40 = true then 0 else 1) (nI (dem (nxN X.sg (cl x)).J)) F) := by
  have hT := X9_demandAfter_ok hM ha hI hB x
  obtain ⟨g, f, A, ⟨h0, h1, hR⟩, hS, -, hr⟩ := hM
  refine AC.of [some (.ref m), some (.int x)] rfl (by decide) (Nat.le_of_ble_eq_true rfl) rfl ?_
  refine AF.aload_n dX9_demandAfterBySteps_0 rfl ?_
  refine AF.iload_n dX9_demandAfterBySteps_1 rfl ?_
  refine AF.vw dX9_demandAfterBySteps_2 kv_X9_196 (hT) (by assumption) rfl rfl rfl (Nat.le_of_ble_eq_true rfl) (by decide) rfl (fun E F9 q => nomatch q.1) (fun v F q => ?_)
  obtain ⟨q, q2⟩ := q
  cases q
  exact AF.ireturn dX9_demandAfterBySteps_5 rfl ⟨rfl, q2⟩
set_option maxRecDepth 100000 in
set_option maxHeartbeats 4000000 in
theorem X9_firstOverload_ok {F0 : AH} (hM : MX G F0 m X th) (ha : gN G ≤ m) (hI : SQ X.sg B) (hB : B + 40 ≤ 2 ^ 21) (x : Int32) : AC G mX9_firstOverload 4 0 0 [.ref m, .int x] F0 (MQq G m X (if inB x 0 40 = true then (if (fov X.sg (cl x)).isSome = true then 0 else 2) else 1) (nI ((fov X.sg (cl x)).getD 0 + 1)) F0) := by
  obtain ⟨g, f, A, hM, hS, -, hr⟩ := hM
  have hn := hS.2.1.1
  obtain ⟨h0, h1, hR⟩ := hM
  refine AC.of [some (.ref m), some (.int x), none, none, none] rfl (by decide) (Nat.le_of_ble_eq_true rfl) rfl ?_
  have hfr : Fr m (m + 9) F0 F0 := Fr.rf
  refine AF.aload_n dX9_firstOverload_0 rfl ?_
  refine AF.iload_n dX9_firstOverload_1 rfl ?_
  refine AF.iconst (0) dX9_firstOverload_2 (by decide) ?_
  refine AF.bipush (40) dX9_firstOverload_3 (by decide) ?_
  refine AF.s1 dX9_firstOverload_5 kv_X9_57 ((X9_in_ok x 0 40)) rfl rfl (Nat.le_of_ble_eq_true rfl) (by decide) rfl ?_
  refine AF.if_eq 15 dX9_firstOverload_8 (by decide) (fun c1 => ?_) (fun c1 => ?_)
  · have c1 := bI_z c1
    rw [c1]
    refine AF.iconst (nI 1) dX9_firstOverload_15 (by decide) ?_
    refine AF.putfieldF dX9_firstOverload_16 fp_X9_41 h0 (by omega) (Nat.le_of_ble_eq_true rfl) rfl rfl (Or.inr fq_6_0) ?_
    intro F e9 h9 o9
    replace h1 := (o9 (m + 1) (by omega)).trans h1
    replace hR := hR.kept (fun q h1 h2 => o9 q (by omega))
    replace h0 := h9
    replace hfr := hfr.step e9 (by omega) (by omega) o9
    clear e9 h9 o9
    refine AF.aload_n dX9_firstOverload_19 rfl ?_
    refine AF.getfield dX9_firstOverload_20 fl_X9_41 (by assumption) rfl ?_
    have hM2 : MA G F m (upd g 0 (nI 1)) f A := ⟨h0, h1, hR⟩
    refine AF.if_le 28 dX9_firstOverload_23 (by decide) (fun c2 => ?_) (fun c2 => ?_)
    · exact absurd c2 (nI_nle (by omega) (by omega))
    · refine AF.iconst (nI 0) dX9_firstOverload_26 (by decide) ?_
      exact AF.ireturn dX9_firstOverload_27 rfl ⟨rfl, ⟨_, f, A, hM2, hS, rfl, hr⟩, hfr⟩
  · have c1 := bI_n c1
    rw [c1, if_pos rfl]
    obtain ⟨x, hx, rfl⟩ := inB_nI (n := 40) (by omega) c1
    rw [cl_nI (by omega)]
    refine AF.iconst (nI 0) dX9_firstOverload_11 (by decide) ?_
    refine AF.goto 16 dX9_firstOverload_12 (by decide) ?_
    refine AF.putfieldF dX9_firstOverload_16 fp_X9_41 h0 (by omega) (Nat.le_of_ble_eq_true rfl) rfl rfl (Or.inr fq_6_0) ?_
    intro F e9 h9 o9
    replace h1 := (o9 (m + 1) (by omega)).trans h1
    replace hR := hR.kept (fun q h1 h2 => o9 q (by omega))
    replace h0 := h9
    replace hfr := hfr.step e9 (by omega) (by omega) o9
    clear e9 h9 o9
    refine AF.aload_n dX9_firstOverload_19 rfl ?_
    refine AF.getfield dX9_firstOverload_20 fl_X9_41 (by assumption) rfl ?_
    have hM2 : MA G F m (upd g 0 (nI 0)) f A := ⟨h0, h1, hR⟩
    refine AF.if_le 28 dX9_firstOverload_23 (by decide) (fun c2 => ?_) (fun c2 => ?_)
    · refine AF.aload_n dX9_firstOverload_28 rfl ?_
      refine AF.vw dX9_firstOverload_29 kv_X9_190 (X9_thinks_ok hM2 ha) (by assumption) rfl rfl rfl (Nat.le_of_ble_eq_true rfl) (by decide) rfl (fun E F9 q => nomatch q.1) (fun v F q => ?_)
      obtain ⟨q, hM3, q3⟩ := q
      cases q
      have hfr3 := hfr.trans q3 (Nat.le_refl _) (Nat.le_refl _)
      have ex0 : ∀ F1 f1 z3 z4, fov X.sg x = none → MA G F1 m (upd g 0 (nI 0)) f1 (uA A 4 (cpU f (A 4) 165)) → Fr m (m + 9) F0 F1 → AF G mX9_firstOverload 4 0 0 (MQq G m X (if (fov X.sg x).isSome = true then 0 else 2) (nI ((fov X.sg x).getD 0 + 1)) F0) F1 82 [some (.ref m), some (.int (nI x)), some (.int (nI 0)), z3, z4] [] := by
        intro F1 f1 z3 z4 hno hM2 hfr
        rw [hno]
        obtain ⟨h0, h1, hR⟩ := id hM2
        refine AF.aload_n dX9_firstOverload_82 rfl ?_
        refine AF.vw dX9_firstOverload_83 kv_X9_193 (X9_forgets_ok hM2 ha) (by assumption) rfl rfl rfl (Nat.le_of_ble_eq_true rfl) (by decide) rfl (fun E F9 q => nomatch q.1) (fun v F q => ?_)
        obtain ⟨q, hM4, q4⟩ := q
        cases q
        obtain ⟨h0, h1, hR⟩ := id hM4
        refine AF.iload_n dX9_firstOverload_86 rfl ?_
        refine AF.if_ne 98 dX9_firstOverload_87 (by decide) (fun hb => ?_) (fun hb => ?_)
        · exact absurd rfl hb
        · refine AF.aload_n dX9_firstOverload_90 rfl ?_
          refine AF.iconst (nI 2) dX9_firstOverload_91 (by decide) ?_
          refine AF.vw dX9_firstOverload_92 kv_X9_54 (X9_fails_ok hM4 ha (nI 2)) (by assumption) rfl rfl rfl (Nat.le_of_ble_eq_true rfl) (by decide) rfl (fun E F9 q => nomatch q.1) (fun v F q => ?_)
          obtain ⟨q, hM5, q5⟩ := q
          cases q
          refine AF.goto 99 dX9_firstOverload_95 (by decide) ?_
          exact AF.ireturn dX9_firstOverload_99 rfl ⟨rfl, ⟨_, _, _, hM5, hS.kept (fun q hq => by rw [cpU_i hq]; exact cpU_i hq), rfl, hr⟩, (hfr.trans q4 (Nat.le_refl _) (Nat.le_refl _)).trans q5 (Nat.le_refl _) (Nat.le_refl _)⟩
      have ex1 : ∀ F1 f1 v z3 z4, fov X.sg x = some v → v < 40 → MA G F1 m (upd g 0 (nI 0)) f1 (uA A 4 (cpU f (A 4) 165)) → Fr m (m + 9) F0 F1 → AF G mX9_firstOverload 4 0 0 (MQq G m X (if (fov X.sg x).isSome = true then 0 else 2) (nI ((fov X.sg x).getD 0 + 1)) F0) F1 82 [some (.ref m), some (.int (nI x)), some (.int (nI (v + 1))), z3, z4] [] := by
        intro F1 f1 v z3 z4 hno hv hM2 hfr
        rw [hno]
        obtain ⟨h0, h1, hR⟩ := id hM2
        refine AF.aload_n dX9_firstOverload_82 rfl ?_
        refine AF.vw dX9_firstOverload_83 kv_X9_193 (X9_forgets_ok hM2 ha) (by assumption) rfl rfl rfl (Nat.le_of_ble_eq_true rfl) (by decide) rfl (fun E F9 q => nomatch q.1) (fun v F q => ?_)
        obtain ⟨q, hM4, q4⟩ := q
        cases q
        refine AF.iload_n dX9_firstOverload_86 rfl ?_
        refine AF.if_ne 98 dX9_firstOverload_87 (by decide) (fun hb => ?_) (fun hb => ?_)
        · refine AF.iload_n dX9_firstOverload_98 rfl ?_
          exact AF.ireturn dX9_firstOverload_99 rfl ⟨rfl, ⟨_, _, _, hM4, hS.kept (fun q hq => by rw [cpU_i hq]; exact cpU_i hq), rfl, hr⟩, hfr.trans q4 (Nat.le_refl _) (Nat.le_refl _)⟩
        · exact absurd hb (nI_ne0 (by omega) (by omega))
      have loop : ∀ k j F1 f1, j + k = x → (∀ i, i < j → fovP X.sg i = false) → SR (nxN X.sg j) f1 → MA G F1 m (upd g 0 (nI 0)) f1 (uA A 4 (cpU f (A 4) 165)) → Fr m (m + 9) F0 F1 → AF G mX9_firstOverload 4 0 0 (MQq G m X (if (fov X.sg x).isSome = true then 0 else 2) (nI ((fov X.sg x).getD 0 + 1)) F0) F1 39 [some (.ref m), some (.int (nI x)), some (.int (nI 0)), some (.int (nI (nxF X.sg j))), some (.int (nI (j + 1)))] [] := by
        intro k
        induction k with
        | zero =>
          intro j F1 f1 hj hb9 hS1 hM2 hfr
          refine AF.iload dX9_firstOverload_39 rfl ?_
          refine AF.iload_n dX9_firstOverload_41 rfl ?_
          refine AF.icmp_gt 82 dX9_firstOverload_42 (by decide) (fun hb => ?_) (fun hb => ?_)
          · exact ex0 F1 f1 _ _ (fnd_none (fun i hi => hb9 i (by omega))) hM2 hfr
          · exact absurd (by rw [nI_ltI (by omega) (by omega)]; omega) hb
        | succ k ih =>
          intro j F1 f1 hj hb9 hS1 hM2 hfr
          have hP := X9_oneBeat_ok hM2 ha hS1 (SI_nxN hI.1 hn j (by omega)) (by omega)
          have hSI := SI_nxN hI.1 hn (j + 1) (by omega)
          have hcp : (nxN X.sg (j + 1)).cap = X.sg.cap := nxN_cap (j + 1)
          have hcap := hI.1.2.1
          obtain ⟨h0, h1, hR⟩ := id hM2
          refine AF.iload dX9_firstOverload_39 rfl ?_
          refine AF.iload_n dX9_firstOverload_41 rfl ?_
          refine AF.icmp_gt 82 dX9_firstOverload_42 (by decide) (fun hb => ?_) (fun hb => ?_)
          · rw [nI_ltI (by omega) (by omega)] at hb
            omega
          · refine AF.iload_n dX9_firstOverload_45 rfl ?_
            refine AF.if_ne 82 dX9_firstOverload_46 (by decide) (fun hb2 => ?_) (fun hb2 => ?_)
            · exact absurd rfl hb2
            · refine AF.iload_n dX9_firstOverload_49 rfl ?_
              refine AF.aload_n dX9_firstOverload_50 rfl ?_
              refine AF.vw dX9_firstOverload_51 kv_X9_121 (hP) (by assumption) rfl rfl rfl (Nat.le_of_ble_eq_true rfl) (by decide) rfl (fun E F9 q => nomatch q.1) (fun v F q => ?_)
              obtain ⟨q, f', hS2, hM4, q4⟩ := q
              cases q
              have hS2 : SR (nxN X.sg (j + 1)) f' := hS2
              have hfr4 := hfr.trans q4 (Nat.le_refl _) (Nat.le_refl _)
              have hd := dem_le hSI.1 hS2.2.1.1
              have hA := X9_asked_ok hM4 hS2
              obtain ⟨h0, h1, hR⟩ := id hM4
              refine AF.iadd dX9_firstOverload_54 ?_
              rw [nI_add]
              refine AF.istore_n dX9_firstOverload_55 (by decide) ?_
              refine AF.aload_n dX9_firstOverload_56 rfl ?_
              refine AF.v1 dX9_firstOverload_57 kv_X9_64 (hA) (by assumption) rfl rfl rfl (Nat.le_of_ble_eq_true rfl) (by decide) rfl ?_
              refine AF.aload_n dX9_firstOverload_60 rfl ?_
              refine AF.getfield dX9_firstOverload_61 fl_X9_7 (by assumption) rfl ?_
              refine AF.iconst (nI 3) dX9_firstOverload_64 (by decide) ?_
              refine AF.iaload (_) dX9_firstOverload_65 (by assumption) rfl (by omega) (by decide) ?_
              rw [hS2.1.2.2.2.1, hcp]
              refine AF.icmp_le 74 dX9_firstOverload_66 (by decide) (fun hc => ?_) (fun hc => ?_)
              · rw [nI_leI (by omega) (by omega)] at hc
                refine AF.iconst (nI 0) dX9_firstOverload_74 (by decide) ?_
                refine AF.istore_n dX9_firstOverload_75 (by decide) ?_
                refine AF.inc1 dX9_firstOverload_76 rfl (by decide) ?_
                refine AF.goto 39 dX9_firstOverload_79 (by decide) ?_
                refine ih (j + 1) F f' (by omega) (fun i hi => ?_) hS2 hM4 hfr4
                by_cases e : i = j
                · rw [e, fovP, decide_eq_false]; omega
                · exact hb9 i (by omega)
              · rw [nI_leI (by omega) (by omega)] at hc
                have hfv : fov X.sg x = some j := fnd_some (by rw [fovP, decide_eq_true_iff]; omega) (by omega) hb9
                refine AF.iload dX9_firstOverload_69 rfl ?_
                refine AF.goto 75 dX9_firstOverload_71 (by decide) ?_
                refine AF.istore_n dX9_firstOverload_75 (by decide) ?_
                refine AF.inc1 dX9_firstOverload_76 rfl (by decide) ?_
                refine AF.goto 39 dX9_firstOverload_79 (by decide) ?_
                refine AF.iload dX9_firstOverload_39 rfl ?_
                refine AF.iload_n dX9_firstOverload_41 rfl ?_
                refine AF.icmp_gt 82 dX9_firstOverload_42 (by decide) (fun hb3 => ?_) (fun hb3 => ?_)
                · exact ex1 F f' j _ _ hfv (by omega) hM4 hfr4
                · refine AF.iload_n dX9_firstOverload_45 rfl ?_
                  refine AF.if_ne 82 dX9_firstOverload_46 (by decide) (fun hb4 => ?_) (fun hb4 => ?_)
                  · exact ex1 F f' j _ _ hfv (by omega) hM4 hfr4
                  · exact absurd hb4 (nI_ne0 (by omega) (by omega))
      refine AF.iconst (nI 0) dX9_firstOverload_32 (by decide) ?_
      refine AF.istore_n dX9_firstOverload_33 (by decide) ?_
      refine AF.iconst (nI 0) dX9_firstOverload_34 (by decide) ?_
      refine AF.istore_n dX9_firstOverload_35 (by decide) ?_
      refine AF.iconst (nI 1) dX9_firstOverload_36 (by decide) ?_
      refine AF.istore dX9_firstOverload_37 (by decide) ?_
      exact loop x 0 F f (by omega) (fun i hi => absurd hi (Nat.not_lt_zero _)) hS hM3 hfr3
    · exact absurd (Int32.le_refl _) c2
end

