/-! Jets: wild jets, ranks, landings, crossings; what a change is refused for. -/
theorem bst_1 {P : Nat → Nat → Bool} : bst P 1 = 0 := by
  have h := bst_lt (P := P) 1 (by omega)
  omega
theorem bI_0 {b : Bool} : bI b = 0 ↔ b = false := by cases b <;> simp [bI] 
theorem bI_n {b : Bool} (h : ¬ bI b = 0) : b = true := by cases b <;> simp_all [bI]
theorem bI_z {b : Bool} (h : bI b = 0) : b = false := bI_0.mp h
def wld (J : List Jt) (cap : Nat) (w : Int32) (j : Nat) : Bool := wil (lan J cap w (dem J) j)
def wfst (J : List Jt) (cap : Nat) (w : Int32) : Option Nat := fnd (wld J cap w) J.length
def hasB (n : Nat) (x : Int32) : Bool := decide (0 ≤ x) && decide (x < nI n)
def rnk (J : List Jt) (j : Nat) : Nat := cntB (fun o => decide (jp J o < jp J j)) J.length
def dst (x p : Int32) : Int64 := if 0 < x.toInt64 - p.toInt64 then x.toInt64 - p.toInt64 else -(x.toInt64 - p.toInt64)
def nrst (J : List Jt) (cap : Nat) (w : Int32) (p : Int32) : Nat := bst (fun j b => decide (dst (lan J cap w (dem J) j) p < dst (lan J cap w (dem J) b) p)) J.length
def hghst (J : List Jt) (cap : Nat) : Nat := bst (fun j b => decide (hgt cap (dem J) (jo J b) < hgt cap (dem J) (jo J j))) J.length
def crs (J : List Jt) (cap : Nat) (w : Int32) (j o : Nat) : Bool := decide (jp J j < jp J o) && decide (lan J cap w (dem J) o < lan J cap w (dem J) j)
def prs (J : List Jt) (cap : Nat) (w : Int32) : Nat := sumN (fun j => cntB (crs J cap w j) J.length) J.length
theorem pz {G : GA} (hG : GOK G) (i : Nat) (hi : i < 5) : va_Z "FountainShow$Problem" (pnm.getD i "") "LFountainShow$Problem;" (.ref (gk G i)) (gA G) G.2.1 G.2.1.heap := (hG.2.2.2.2.2.2.1.1 i hi).1
section
variable {G : GA} {F : AH} {a : Nat} {J : List Jt} {cap : Nat} {w : Int32}
set_option maxRecDepth 100000 in
theorem X3_countWild_ok (hJ : JA G F a J cap w) (hI : JI J) (hcap : cap ≤ 100) : AC G mX3_countWild 2 0 0 [.ref a] F (AV (some (.int (nI (cntB (wld J cap w) J.length)))) F) := by
  have hs := X3_sum_ok hJ
  have hL := fun j hj => X3_landingOf_ok hJ hI hcap (dem J) j (dem_le hI hJ.choose_spec.choose_spec.2.1) hj
  obtain ⟨f, g, ⟨h0, h1, h2⟩, hn, hr⟩ := hJ
  refine AC.of [some (.ref a), none, none, none] rfl (by decide) (Nat.le_of_ble_eq_true rfl) rfl ?_
  have loop : ∀ k j, j + k = J.length → AF G mX3_countWild 2 0 0 (AV (some (.int (nI (cntB (wld J cap w) J.length)))) F) F 9 [some (.ref a), some (.int (nI (dem J))), some (.int (nI (cntB (wld J cap w) j))), some (.int (nI j))] [] := by
    intro k
    induction k with
    | zero =>
      intro j hj
      refine AF.iload_n dX3_countWild_9 rfl ?_
      refine AF.aload_n dX3_countWild_10 rfl ?_
      refine AF.getfield dX3_countWild_11 fl_X3_18 (by assumption) rfl ?_
      refine AF.icmp_ge 38 dX3_countWild_14 (by decide) (fun hb => ?_) (fun hb => ?_)
      · refine AF.iload_n dX3_countWild_38 rfl ?_
        exact AF.ireturn dX3_countWild_39 rfl ⟨by rw [show j = J.length by omega], rfl⟩
      · exact absurd (by rw [nI_leI (by omega) (by omega)]; omega) hb
    | succ k ih =>
      intro j hj
      refine AF.iload_n dX3_countWild_9 rfl ?_
      refine AF.aload_n dX3_countWild_10 rfl ?_
      refine AF.getfield dX3_countWild_11 fl_X3_18 (by assumption) rfl ?_
      refine AF.icmp_ge 38 dX3_countWild_14 (by decide) (fun hb => ?_) (fun hb => ?_)
      · rw [nI_leI (by omega) (by omega)] at hb
        omega
      · refine AF.aload_n dX3_countWild_17 rfl ?_
        refine AF.iload_n dX3_countWild_18 rfl ?_
        refine AF.iload_n dX3_countWild_19 rfl ?_
        refine AF.v1 dX3_countWild_20 kv_X3_72 ((hL j (by omega))) (by assumption) rfl rfl rfl (Nat.le_of_ble_eq_true rfl) (by decide) rfl ?_
        refine AF.s1 dX3_countWild_23 kv_X3_75 ((X3_isOutside_ok _)) rfl rfl (Nat.le_of_ble_eq_true rfl) (by decide) rfl ?_
        refine AF.if_eq 32 dX3_countWild_26 (by decide) (fun hc => ?_) (fun hc => ?_)
        · refine AF.inc1 dX3_countWild_32 rfl (by decide) ?_
          refine AF.goto 9 dX3_countWild_35 (by decide) ?_
          have h9 := ih (j + 1) (by omega)
          rw [show cntB (wld J cap w) (j + 1) = cntB (wld J cap w) j by simp only [cntB]; rw [if_neg (by rw [wld, bI_z hc]; decide), Nat.add_zero]] at h9
          exact h9
        · refine AF.inc1 dX3_countWild_29 rfl (by decide) ?_
          refine AF.inc1 dX3_countWild_32 rfl (by decide) ?_
          refine AF.goto 9 dX3_countWild_35 (by decide) ?_
          have h9 := ih (j + 1) (by omega)
          rw [show cntB (wld J cap w) (j + 1) = cntB (wld J cap w) j + 1 by simp only [cntB]; rw [if_pos (by rw [wld, bI_n hc])]] at h9
          exact h9
  refine AF.aload_n dX3_countWild_0 rfl ?_
  refine AF.v1 dX3_countWild_1 kv_X3_68 (hs) (by assumption) rfl rfl rfl (Nat.le_of_ble_eq_true rfl) (by decide) rfl ?_
  refine AF.istore_n dX3_countWild_4 (by decide) ?_
  refine AF.iconst (0) dX3_countWild_5 (by decide) ?_
  refine AF.istore_n dX3_countWild_6 (by decide) ?_
  refine AF.iconst (0) dX3_countWild_7 (by decide) ?_
  refine AF.istore_n dX3_countWild_8 (by decide) ?_
  exact loop J.length 0 (by omega)
set_option maxRecDepth 100000 in
theorem X3_findFirstWild_ok (hJ : JA G F a J cap w) (hI : JI J) (hcap : cap ≤ 100) : AC G mX3_findFirstWild 2 0 0 [.ref a] F (AV (some (.int (match wfst J cap w with | some j => nI j | none => -1))) F) := by
  have hs := X3_sum_ok hJ
  have hL := fun j hj => X3_landingOf_ok hJ hI hcap (dem J) j (dem_le hI hJ.choose_spec.choose_spec.2.1) hj
  obtain ⟨f, g, ⟨h0, h1, h2⟩, hn, hr⟩ := hJ
  refine AC.of [some (.ref a), none, none] rfl (by decide) (Nat.le_of_ble_eq_true rfl) rfl ?_
  have loop : ∀ k j, j + k = J.length → (∀ i, i < j → wld J cap w i = false) → AF G mX3_findFirstWild 2 0 0 (AV (some (.int (match wfst J cap w with | some j => nI j | none => -1))) F) F 7 [some (.ref a), some (.int (nI (dem J))), some (.int (nI j))] [] := by
    intro k
    induction k with
    | zero =>
      intro j hj hb9
      refine AF.iload_n dX3_findFirstWild_7 rfl ?_
      refine AF.aload_n dX3_findFirstWild_8 rfl ?_
      refine AF.getfield dX3_findFirstWild_9 fl_X3_18 (by assumption) rfl ?_
      refine AF.icmp_ge 35 dX3_findFirstWild_12 (by decide) (fun hb => ?_) (fun hb => ?_)
      · refine AF.iconst (-1) dX3_findFirstWild_35 (by decide) ?_
        exact AF.ireturn dX3_findFirstWild_36 rfl ⟨by rw [show wfst J cap w = none from fnd_none (fun i hi => hb9 i (by omega))], rfl⟩
      · exact absurd (by rw [nI_leI (by omega) (by omega)]; omega) hb
    | succ k ih =>
      intro j hj hb9
      refine AF.iload_n dX3_findFirstWild_7 rfl ?_
      refine AF.aload_n dX3_findFirstWild_8 rfl ?_
      refine AF.getfield dX3_findFirstWild_9 fl_X3_18 (by assumption) rfl ?_
      refine AF.icmp_ge 35 dX3_findFirstWild_12 (by decide) (fun hb => ?_) (fun hb => ?_)
      · rw [nI_leI (by omega) (by omega)] at hb
        omega
      · refine AF.aload_n dX3_findFirstWild_15 rfl ?_
        refine AF.iload_n dX3_findFirstWild_16 rfl ?_
        refine AF.iload_n dX3_findFirstWild_17 rfl ?_
        refine AF.v1 dX3_findFirstWild_18 kv_X3_72 ((hL j (by omega))) (by assumption) rfl rfl rfl (Nat.le_of_ble_eq_true rfl) (by decide) rfl ?_
        refine AF.s1 dX3_findFirstWild_21 kv_X3_75 ((X3_isOutside_ok _)) rfl rfl (Nat.le_of_ble_eq_true rfl) (by decide) rfl ?_
        refine AF.if_eq 29 dX3_findFirstWild_24 (by decide) (fun hc => ?_) (fun hc => ?_)
        · refine AF.inc1 dX3_findFirstWild_29 rfl (by decide) ?_
          refine AF.goto 7 dX3_findFirstWild_32 (by decide) ?_
          refine ih (j + 1) (by omega) (fun i hi => ?_)
          by_cases e : i = j
          · rw [e]; exact bI_z hc
          · exact hb9 i (by omega)
        · refine AF.iload_n dX3_findFirstWild_27 rfl ?_
          exact AF.ireturn dX3_findFirstWild_28 rfl ⟨by rw [show wfst J cap w = some j from fnd_some (bI_n hc) (by omega) hb9], rfl⟩
  refine AF.aload_n dX3_findFirstWild_0 rfl ?_
  refine AF.v1 dX3_findFirstWild_1 kv_X3_68 (hs) (by assumption) rfl rfl rfl (Nat.le_of_ble_eq_true rfl) (by decide) rfl ?_
  refine AF.istore_n dX3_findFirstWild_4 (by decide) ?_
  refine AF.iconst (0) dX3_findFirstWild_5 (by decide) ?_
  refine AF.istore_n dX3_findFirstWild_6 (by decide) ?_
  exact loop J.length 0 (by omega) (fun i hi => by omega)
set_option maxRecDepth 100000 in
theorem X3_rankOf_ok (hJ : JA G F a J cap w) (hI : JI J) (x : Nat) (hx : x < J.length) : AC G mX3_rankOf 0 0 0 [.ref a, .int (nI x)] F (AV (some (.int (nI (rnk J x)))) F) := by
  obtain ⟨f, g, ⟨h0, h1, h2⟩, hn, hr⟩ := hJ
  refine AC.of [some (.ref a), some (.int (nI x)), none, none] rfl (by decide) (Nat.le_of_ble_eq_true rfl) rfl ?_
  have loop : ∀ k j, j + k = J.length → AF G mX3_rankOf 0 0 0 (AV (some (.int (nI (rnk J x)))) F) F 4 [some (.ref a), some (.int (nI x)), some (.int (nI (cntB (fun o => decide (jp J o < jp J x)) j))), some (.int (nI j))] [] := by
    intro k
    induction k with
    | zero =>
      intro j hj
      refine AF.iload_n dX3_rankOf_4 rfl ?_
      refine AF.aload_n dX3_rankOf_5 rfl ?_
      refine AF.getfield dX3_rankOf_6 fl_X3_18 (by assumption) rfl ?_
      refine AF.icmp_ge 36 dX3_rankOf_9 (by decide) (fun hb => ?_) (fun hb => ?_)
      · refine AF.iload_n dX3_rankOf_36 rfl ?_
        exact AF.ireturn dX3_rankOf_37 rfl ⟨by rw [show j = J.length by omega]; rfl, rfl⟩
      · exact absurd (by rw [nI_leI (by omega) (by omega)]; omega) hb
    | succ k ih =>
      intro j hj
      refine AF.iload_n dX3_rankOf_4 rfl ?_
      refine AF.aload_n dX3_rankOf_5 rfl ?_
      refine AF.getfield dX3_rankOf_6 fl_X3_18 (by assumption) rfl ?_
      refine AF.icmp_ge 36 dX3_rankOf_9 (by decide) (fun hb => ?_) (fun hb => ?_)
      · rw [nI_leI (by omega) (by omega)] at hb
        omega
      · refine AF.aload_n dX3_rankOf_12 rfl ?_
        refine AF.getfield dX3_rankOf_13 fl_X3_9 (by assumption) rfl ?_
        refine AF.iload_n dX3_rankOf_16 rfl ?_
        refine AF.iaload (_) dX3_rankOf_17 (by assumption) rfl (by omega) (by decide) ?_
        refine AF.aload_n dX3_rankOf_18 rfl ?_
        refine AF.getfield dX3_rankOf_19 fl_X3_9 (by assumption) rfl ?_
        refine AF.iload_n dX3_rankOf_22 rfl ?_
        refine AF.iaload (_) dX3_rankOf_23 (by assumption) rfl (by omega) (by decide) ?_
        rw [(hr j (by omega)).1, (hr x hx).1]
        have q1 := (hI j).1
        have q2 := (hI x).1
        refine AF.icmp_ge 30 dX3_rankOf_24 (by decide) (fun hc => ?_) (fun hc => ?_)
        · rw [nI_leI (by omega) (by omega)] at hc
          refine AF.inc1 dX3_rankOf_30 rfl (by decide) ?_
          refine AF.goto 4 dX3_rankOf_33 (by decide) ?_
          have h9 := ih (j + 1) (by omega)
          simp only [cntB] at h9
          rw [if_neg (by rw [decide_eq_true_iff]; omega)] at h9
          exact h9
        · rw [nI_leI (by omega) (by omega)] at hc
          refine AF.inc1 dX3_rankOf_27 rfl (by decide) ?_
          refine AF.inc1 dX3_rankOf_30 rfl (by decide) ?_
          refine AF.goto 4 dX3_rankOf_33 (by decide) ?_
          have h9 := ih (j + 1) (by omega)
          simp only [cntB] at h9
          rw [if_pos (by rw [decide_eq_true_iff]; omega)] at h9
          exact h9
  refine AF.iconst (0) dX3_rankOf_0 (by decide) ?_
  refine AF.istore_n dX3_rankOf_1 (by decide) ?_
  refine AF.iconst (0) dX3_rankOf_2 (by decide) ?_
  refine AF.istore_n dX3_rankOf_3 (by decide) ?_
  exact loop J.length 0 (by omega)
set_option maxRecDepth 100000 in
theorem X3_findByRank_ok (hJ : JA G F a J cap w) (hI : JI J) (x : Int32) : AC G mX3_findByRank 1 0 0 [.ref a, .int x] F (AV (some (.int (match fnd (fun j => decide (nI (rnk J j) = x)) J.length with | some j => nI j | none => -1))) F) := by
  have hR := fun j hj => X3_rankOf_ok hJ hI j hj
  obtain ⟨f, g, ⟨h0, h1, h2⟩, hn, hr⟩ := hJ
  refine AC.of [some (.ref a), some (.int x), none] rfl (by decide) (Nat.le_of_ble_eq_true rfl) rfl ?_
  have loop : ∀ k j, j + k = J.length → (∀ i, i < j → decide (nI (rnk J i) = x) = false) → AF G mX3_findByRank 1 0 0 (AV (some (.int (match fnd (fun j => decide (nI (rnk J j) = x)) J.length with | some j => nI j | none => -1))) F) F 2 [some (.ref a), some (.int x), some (.int (nI j))] [] := by
    intro k
    induction k with
    | zero =>
      intro j hj hb9
      refine AF.iload_n dX3_findByRank_2 rfl ?_
      refine AF.aload_n dX3_findByRank_3 rfl ?_
      refine AF.getfield dX3_findByRank_4 fl_X3_18 (by assumption) rfl ?_
      refine AF.icmp_ge 27 dX3_findByRank_7 (by decide) (fun hb => ?_) (fun hb => ?_)
      · refine AF.iconst (-1) dX3_findByRank_27 (by decide) ?_
        exact AF.ireturn dX3_findByRank_28 rfl ⟨by rw [fnd_none (fun i hi => hb9 i (by omega))], rfl⟩
      · exact absurd (by rw [nI_leI (by omega) (by omega)]; omega) hb
    | succ k ih =>
      intro j hj hb9
      refine AF.iload_n dX3_findByRank_2 rfl ?_
      refine AF.aload_n dX3_findByRank_3 rfl ?_
      refine AF.getfield dX3_findByRank_4 fl_X3_18 (by assumption) rfl ?_
      refine AF.icmp_ge 27 dX3_findByRank_7 (by decide) (fun hb => ?_) (fun hb => ?_)
      · rw [nI_leI (by omega) (by omega)] at hb
        omega
      · refine AF.aload_n dX3_findByRank_10 rfl ?_
        refine AF.iload_n dX3_findByRank_11 rfl ?_
        refine AF.v1 dX3_findByRank_12 kv_X3_81 ((hR j (by omega))) (by assumption) rfl rfl rfl (Nat.le_of_ble_eq_true rfl) (by decide) rfl ?_
        refine AF.iload_n dX3_findByRank_15 rfl ?_
        refine AF.icmp_ne 21 dX3_findByRank_16 (by decide) (fun hc => ?_) (fun hc => ?_)
        · refine AF.inc1 dX3_findByRank_21 rfl (by decide) ?_
          refine AF.goto 2 dX3_findByRank_24 (by decide) ?_
          refine ih (j + 1) (by omega) (fun i hi => ?_)
          by_cases e : i = j
          · rw [e]; exact decide_eq_false hc
          · exact hb9 i (by omega)
        · refine AF.iload_n dX3_findByRank_19 rfl ?_
          exact AF.ireturn dX3_findByRank_20 rfl ⟨by rw [fnd_some (decide_eq_true hc) (by omega) hb9], rfl⟩
  refine AF.iconst (0) dX3_findByRank_0 (by decide) ?_
  refine AF.istore_n dX3_findByRank_1 (by decide) ?_
  exact loop J.length 0 (by omega) (fun i hi => by omega)
set_option maxRecDepth 100000 in
theorem X3_findHighest_ok (hJ : JA G F a J cap w) (hI : JI J) (hcap : cap ≤ 100) : AC G mX3_findHighest 1 0 0 [.ref a] F (AV (some (.int (nI (hghst J cap)))) F) := by
  have hs := X3_sum_ok hJ
  have hL := fun j hj => X3_heightOf_ok hJ hI hcap (dem J) j (dem_le hI hJ.choose_spec.choose_spec.2.1) hj
  obtain ⟨f, g, ⟨h0, h1, h2⟩, hn, hr⟩ := hJ
  refine AC.of [some (.ref a), none, none, none] rfl (by decide) (Nat.le_of_ble_eq_true rfl) rfl ?_
  generalize hP : (fun j b => decide (hgt cap (dem J) (jo J b) < hgt cap (dem J) (jo J j))) = P
  have hg : hghst J cap = bst P J.length := by rw [← hP]; rfl
  rw [hg]
  have loop : ∀ k j, 1 ≤ j → j + k = J.length → AF G mX3_findHighest 1 0 0 (AV (some (.int (nI (bst P J.length)))) F) F 9 [some (.ref a), some (.int (nI (dem J))), some (.int (nI (bst P j))), some (.int (nI j))] [] := by
    intro k
    induction k with
    | zero =>
      intro j h1j hj
      refine AF.iload_n dX3_findHighest_9 rfl ?_
      refine AF.aload_n dX3_findHighest_10 rfl ?_
      refine AF.getfield dX3_findHighest_11 fl_X3_18 (by assumption) rfl ?_
      refine AF.icmp_ge 40 dX3_findHighest_14 (by decide) (fun hb => ?_) (fun hb => ?_)
      · refine AF.iload_n dX3_findHighest_40 rfl ?_
        exact AF.ireturn dX3_findHighest_41 rfl ⟨by rw [show j = J.length by omega], rfl⟩
      · exact absurd (by rw [nI_leI (by omega) (by omega)]; omega) hb
    | succ k ih =>
      intro j h1j hj
      have hbl := bst_lt (P := P) j (by omega)
      refine AF.iload_n dX3_findHighest_9 rfl ?_
      refine AF.aload_n dX3_findHighest_10 rfl ?_
      refine AF.getfield dX3_findHighest_11 fl_X3_18 (by assumption) rfl ?_
      refine AF.icmp_ge 40 dX3_findHighest_14 (by decide) (fun hb => ?_) (fun hb => ?_)
      · rw [nI_leI (by omega) (by omega)] at hb
        omega
      · refine AF.aload_n dX3_findHighest_17 rfl ?_
        refine AF.iload_n dX3_findHighest_18 rfl ?_
        refine AF.iload_n dX3_findHighest_19 rfl ?_
        refine AF.v1 dX3_findHighest_20 kv_X3_65 ((hL j (by omega))) (by assumption) rfl rfl rfl (Nat.le_of_ble_eq_true rfl) (by decide) rfl ?_
        refine AF.aload_n dX3_findHighest_23 rfl ?_
        refine AF.iload_n dX3_findHighest_24 rfl ?_
        refine AF.iload_n dX3_findHighest_25 rfl ?_
        refine AF.v1 dX3_findHighest_26 kv_X3_65 ((hL (bst P j) (by omega))) (by assumption) rfl rfl rfl (Nat.le_of_ble_eq_true rfl) (by decide) rfl ?_
        have q1 := hgt_le (cap := cap) (D := dem J) (hI j).2
        have q2 := hgt_le (cap := cap) (D := dem J) (hI (bst P j)).2
        refine AF.icmp_le 34 dX3_findHighest_29 (by decide) (fun hc => ?_) (fun hc => ?_)
        · rw [nI_leI (by omega) (by omega)] at hc
          refine AF.inc1 dX3_findHighest_34 rfl (by decide) ?_
          refine AF.goto 9 dX3_findHighest_37 (by decide) ?_
          have h9 := ih (j + 1) (by omega) (by omega)
          simp only [bst] at h9
          rw [if_neg (by rw [← hP, decide_eq_true_iff] at *; omega)] at h9
          exact h9
        · rw [nI_leI (by omega) (by omega)] at hc
          refine AF.iload_n dX3_findHighest_32 rfl ?_
          refine AF.istore_n dX3_findHighest_33 (by decide) ?_
          refine AF.inc1 dX3_findHighest_34 rfl (by decide) ?_
          refine AF.goto 9 dX3_findHighest_37 (by decide) ?_
          have h9 := ih (j + 1) (by omega) (by omega)
          simp only [bst] at h9
          rw [if_pos (by rw [← hP, decide_eq_true_iff] at *; omega)] at h9
          exact h9
  have b1 : bst P 1 = 0 := bst_1
  refine AF.aload_n dX3_findHighest_0 rfl ?_
  refine AF.v1 dX3_findHighest_1 kv_X3_68 (hs) (by assumption) rfl rfl rfl (Nat.le_of_ble_eq_true rfl) (by decide) rfl ?_
  by_cases hz : J.length = 0
  · refine AF.istore_n dX3_findHighest_4 (by decide) ?_
    refine AF.iconst (0) dX3_findHighest_5 (by decide) ?_
    refine AF.istore_n dX3_findHighest_6 (by decide) ?_
    refine AF.iconst (1) dX3_findHighest_7 (by decide) ?_
    refine AF.istore_n dX3_findHighest_8 (by decide) ?_
    refine AF.iload_n dX3_findHighest_9 rfl ?_
    refine AF.aload_n dX3_findHighest_10 rfl ?_
    refine AF.getfield dX3_findHighest_11 fl_X3_18 (by assumption) rfl ?_
    refine AF.icmp_ge 40 dX3_findHighest_14 (by decide) (fun hb => ?_) (fun hb => ?_)
    · refine AF.iload_n dX3_findHighest_40 rfl ?_
      exact AF.ireturn dX3_findHighest_41 rfl ⟨by rw [hz]; rfl, rfl⟩
    · exact absurd (show nI J.length ≤ nI 1 by rw [nI_leI (by omega) (by omega)]; omega) hb
  · refine AF.istore_n dX3_findHighest_4 (by decide) ?_
    refine AF.iconst (nI 0) dX3_findHighest_5 (by decide) ?_
    refine AF.istore_n dX3_findHighest_6 (by decide) ?_
    refine AF.iconst (nI 1) dX3_findHighest_7 (by decide) ?_
    refine AF.istore_n dX3_findHighest_8 (by decide) ?_
    have h9 := loop (J.length - 1) 1 (by omega) (by omega)
    rw [b1] at h9
    exact h9
set_option maxRecDepth 100000 in
theorem X3_distance_ok (hJ : JA G F a J cap w) (hI : JI J) (hcap : cap ≤ 100) (D j : Nat) (hD : D ≤ 100) (hj : j < J.length) (p : Int32) : AC G mX3_distance 2 0 0 [.ref a, .int (nI j), .int (nI D), .int p] F (AV (some (.long (dst (lan J cap w D j) p))) F) := by
  have hL := X3_landingOf_ok hJ hI hcap D j hD hj
  obtain ⟨f, g, ⟨h0, h1, h2⟩, hn, hr⟩ := hJ
  refine AC.of [some (.ref a), some (.int (nI j)), some (.int (nI D)), some (.int p)] rfl (by decide) (Nat.le_of_ble_eq_true rfl) rfl ?_
  refine AF.aload_n dX3_distance_0 rfl ?_
  refine AF.iload_n dX3_distance_1 rfl ?_
  refine AF.iload_n dX3_distance_2 rfl ?_
  refine AF.v1 dX3_distance_3 kv_X3_72 (hL) (by assumption) rfl rfl rfl (Nat.le_of_ble_eq_true rfl) (by decide) rfl ?_
  refine AF.i2l dX3_distance_6 ?_
  refine AF.iload_n dX3_distance_7 rfl ?_
  refine AF.i2l dX3_distance_8 ?_
  refine AF.lsub dX3_distance_9 ?_
  refine AF.labs dX3_distance_10 km_X3_89 (Nat.le_of_ble_eq_true rfl) (by decide) ?_
  exact AF.lreturn dX3_distance_13 rfl ⟨rfl, rfl⟩
end

