/-! Jets: the nearest landing, crossings, what a change is refused for; the writing methods. -/
def pAdd (J : List Jt) (x : Int32) : Nat := if x < 0 ∨ 99 < x then 2 else if (fnd (fun j => decide (nI (jp J j) = x)) J.length).isSome = true then 3 else if J.length < 10 then 0 else 4
def pOpn (n : Nat) (x o : Int32) : Nat := if hasB n x = false then 1 else if o < 0 ∨ 10 < o then 2 else 0
def pCap (x : Int32) : Nat := if x < 0 ∨ 100 < x then 2 else 0
def pWnd (x : Int32) : Nat := if x < -9 ∨ 9 < x then 2 else 0
def JW (G : GA) (a : Nat) (J : List Jt) (cap : Nat) (w : Int32) (v : Option Value) (F0 : AH) : AR → AH → Prop := fun r F' => r = .inl v ∧ JA G F' a J cap w ∧ Fr a (a + 3) F0 F'
theorem jget_set {J : List Jt} {j i : Nat} {q : Jt} : (J.set j q).getD i (0, 0) = if i = j ∧ j < J.length then q else J.getD i (0, 0) := by
  rw [List.getD_eq_getElem?_getD, List.getElem?_set, List.getD_eq_getElem?_getD]
  by_cases h : j = i
  · subst h
    by_cases h2 : j < J.length
    · simp [h2]
    · simp [h2, List.getElem?_eq_none (Nat.not_lt.mp h2)]
  · rw [if_neg h, if_neg (fun q => h q.1.symm)]
theorem jp_set {J : List Jt} {j i : Nat} {q : Jt} : jp (J.set j q) i = if i = j ∧ j < J.length then q.1 else jp J i := by
  unfold jp; rw [jget_set]; split <;> rfl
theorem jo_set {J : List Jt} {j i : Nat} {q : Jt} : jo (J.set j q) i = if i = j ∧ j < J.length then q.2 else jo J i := by
  unfold jo; rw [jget_set]; split <;> rfl
theorem jget_app {J : List Jt} {i : Nat} {q : Jt} : (J ++ [q]).getD i (0, 0) = if i = J.length then q else J.getD i (0, 0) := by
  rw [List.getD_eq_getElem?_getD, List.getD_eq_getElem?_getD, List.getElem?_append]
  by_cases h : i < J.length
  · rw [if_pos h, if_neg (by omega)]
  · rw [if_neg h]
    by_cases h2 : i = J.length
    · subst h2; simp
    · rw [if_neg h2, List.getElem?_eq_none (by simp; omega), List.getElem?_eq_none (by omega)]
theorem jp_app {J : List Jt} {i : Nat} {q : Jt} : jp (J ++ [q]) i = if i = J.length then q.1 else jp J i := by
  unfold jp; rw [jget_app]; split <;> rfl
theorem jo_app {J : List Jt} {i : Nat} {q : Jt} : jo (J ++ [q]) i = if i = J.length then q.2 else jo J i := by
  unfold jo; rw [jget_app]; split <;> rfl
theorem jget_era {J : List Jt} {k i : Nat} : (J.eraseIdx k).getD i (0, 0) = if i < k then J.getD i (0, 0) else J.getD (i + 1) (0, 0) := by
  rw [List.getD_eq_getElem?_getD, List.getD_eq_getElem?_getD, List.getD_eq_getElem?_getD, List.getElem?_eraseIdx]
  split <;> rfl
theorem jp_era {J : List Jt} {k i : Nat} : jp (J.eraseIdx k) i = if i < k then jp J i else jp J (i + 1) := by
  unfold jp; rw [jget_era]; split <;> rfl
theorem jo_era {J : List Jt} {k i : Nat} : jo (J.eraseIdx k) i = if i < k then jo J i else jo J (i + 1) := by
  unfold jo; rw [jget_era]; split <;> rfl
theorem JI_set {J : List Jt} {j : Nat} {q : Jt} (h : JI J) (h1 : q.1 ≤ 99) (h2 : q.2 ≤ 10) : JI (J.set j q) := fun i => by
  rw [jp_set, jo_set]; have := h i; constructor <;> split <;> omega
theorem JI_app {J : List Jt} {q : Jt} (h : JI J) (h1 : q.1 ≤ 99) (h2 : q.2 ≤ 10) : JI (J ++ [q]) := fun i => by
  rw [jp_app, jo_app]; have := h i; constructor <;> split <;> omega
theorem JI_era {J : List Jt} {k : Nat} (h : JI J) : JI (J.eraseIdx k) := fun i => by
  rw [jp_era, jo_era]; have := h i; have := h (i + 1); constructor <;> split <;> omega
/-- one decrease, and trimming -/
def dec1 (J : List Jt) (j : Nat) : List Jt := J.set j (jp J j, jo J j - 1)
def trm (cap : Nat) (w : Int32) : Nat → List Jt → Nat × List Jt
  | 0, J => (0, J)
  | n + 1, J => match wfst J cap w with
    | none => (0, J)
    | some j => ((trm cap w n (dec1 J j)).1 + 1, (trm cap w n (dec1 J j)).2)
theorem fnd_spec {P : Nat → Bool} {n j : Nat} (h : fnd P n = some j) : j < n ∧ P j = true := by
  unfold fnd at h
  exact ⟨List.mem_range.mp (List.mem_of_find?_eq_some h), List.find?_some h⟩
theorem lan_closed {J : List Jt} {cap D j : Nat} {w : Int32} (h : jo J j = 0) : lan J cap w D j = nI (jp J j) := by
  unfold lan
  rw [h, show hgt cap D 0 = 0 by unfold hgt; split <;> simp, nI_0, Int32.zero_mul, show (0 : Int32) / 20 = 0 by decide, Int32.add_zero]
theorem wil_nI {k : Nat} (h : k ≤ 99) : wil (nI k) = false := by
  unfold wil
  rw [decide_eq_false (nI_pos (by omega)), decide_eq_false (show ¬ ((99 : Int32) < nI k) by show ¬ (nI 99 < nI k); rw [nI_ltI (by omega) (by omega)]; omega)]
  rfl
theorem wild_open {J : List Jt} {cap : Nat} {w : Int32} {j : Nat} (hI : JI J) (h : wld J cap w j = true) : 0 < jo J j := by
  apply Nat.pos_of_ne_zero
  intro h0
  rw [wld, lan_closed h0, wil_nI (hI j).1] at h
  cases h
theorem dec1_len {J : List Jt} {j : Nat} : (dec1 J j).length = J.length := by simp [dec1]
theorem JI_dec1 {J : List Jt} {j : Nat} (h : JI J) : JI (dec1 J j) := JI_set h (h j).1 (by have := (h j).2; dsimp only; omega)
theorem trm_len {cap : Nat} {w : Int32} : ∀ n J, (trm cap w n J).2.length = J.length
  | 0, J => rfl
  | n + 1, J => by
    simp only [trm]
    split
    · rfl
    · rw [trm_len n]; exact dec1_len
theorem JI_trm {cap : Nat} {w : Int32} : ∀ n J, JI J → JI (trm cap w n J).2
  | 0, J, h => h
  | n + 1, J, h => by
    simp only [trm]
    split
    · exact h
    · exact JI_trm n _ (JI_dec1 h)
theorem trm_le {cap : Nat} {w : Int32} : ∀ n J, (trm cap w n J).1 ≤ n
  | 0, J => Nat.le_refl _
  | n + 1, J => by
    simp only [trm]
    split
    · exact Nat.zero_le _
    · exact Nat.succ_le_succ (trm_le n _)
section
variable {G : GA} {F : AH} {a : Nat} {J : List Jt} {cap : Nat} {w : Int32}
set_option maxRecDepth 100000 in
theorem X3_findNearestLanding_ok (hJ : JA G F a J cap w) (hI : JI J) (hcap : cap ≤ 100) (p : Int32) : AC G mX3_findNearestLanding 3 0 0 [.ref a, .int p] F (AV (some (.int (nI (nrst J cap w p)))) F) := by
  have hs := X3_sum_ok hJ
  have hL := fun j hj => X3_distance_ok hJ hI hcap (dem J) j (dem_le hI hJ.choose_spec.choose_spec.2.1) hj p
  obtain ⟨f, g, ⟨h0, h1, h2⟩, hn, hr⟩ := hJ
  refine AC.of [some (.ref a), some (.int p), none, none, none] rfl (by decide) (Nat.le_of_ble_eq_true rfl) rfl ?_
  generalize hP : (fun j b => decide (dst (lan J cap w (dem J) j) p < dst (lan J cap w (dem J) b) p)) = P
  have hg : nrst J cap w p = bst P J.length := by rw [← hP]; rfl
  rw [hg]
  have loop : ∀ k j, 1 ≤ j → j + k = J.length → AF G mX3_findNearestLanding 3 0 0 (AV (some (.int (nI (bst P J.length)))) F) F 10 [some (.ref a), some (.int p), some (.int (nI (dem J))), some (.int (nI (bst P j))), some (.int (nI j))] [] := by
    intro k
    induction k with
    | zero =>
      intro j h1j hj
      refine AF.iload dX3_findNearestLanding_10 rfl ?_
      refine AF.aload_n dX3_findNearestLanding_12 rfl ?_
      refine AF.getfield dX3_findNearestLanding_13 fl_X3_18 (by assumption) rfl ?_
      refine AF.icmp_ge 47 dX3_findNearestLanding_16 (by decide) (fun hb => ?_) (fun hb => ?_)
      · refine AF.iload_n dX3_findNearestLanding_47 rfl ?_
        exact AF.ireturn dX3_findNearestLanding_48 rfl ⟨by rw [show j = J.length by omega], rfl⟩
      · exact absurd (by rw [nI_leI (by omega) (by omega)]; omega) hb
    | succ k ih =>
      intro j h1j hj
      have hbl := bst_lt (P := P) j (by omega)
      refine AF.iload dX3_findNearestLanding_10 rfl ?_
      refine AF.aload_n dX3_findNearestLanding_12 rfl ?_
      refine AF.getfield dX3_findNearestLanding_13 fl_X3_18 (by assumption) rfl ?_
      refine AF.icmp_ge 47 dX3_findNearestLanding_16 (by decide) (fun hb => ?_) (fun hb => ?_)
      · rw [nI_leI (by omega) (by omega)] at hb
        omega
      · refine AF.aload_n dX3_findNearestLanding_19 rfl ?_
        refine AF.iload dX3_findNearestLanding_20 rfl ?_
        refine AF.iload_n dX3_findNearestLanding_22 rfl ?_
        refine AF.iload_n dX3_findNearestLanding_23 rfl ?_
        refine AF.v1 dX3_findNearestLanding_24 kv_X3_85 ((hL j (by omega))) (by assumption) rfl rfl rfl (Nat.le_of_ble_eq_true rfl) (by decide) rfl ?_
        refine AF.aload_n dX3_findNearestLanding_27 rfl ?_
        refine AF.iload_n dX3_findNearestLanding_28 rfl ?_
        refine AF.iload_n dX3_findNearestLanding_29 rfl ?_
        refine AF.iload_n dX3_findNearestLanding_30 rfl ?_
        refine AF.v1 dX3_findNearestLanding_31 kv_X3_85 ((hL (bst P j) (by omega))) (by assumption) rfl rfl rfl (Nat.le_of_ble_eq_true rfl) (by decide) rfl ?_
        refine AF.lcmp dX3_findNearestLanding_34 ?_
        refine AF.if_ge 41 dX3_findNearestLanding_35 (by decide) (fun hc => ?_) (fun hc => ?_)
        · refine AF.inc1 dX3_findNearestLanding_41 rfl (by decide) ?_
          refine AF.goto 10 dX3_findNearestLanding_44 (by decide) ?_
          have h9 := ih (j + 1) (by omega) (by omega)
          simp only [bst] at h9
          rw [if_neg (by rw [← hP, decide_eq_true_iff] at *; exact lcmp_ge hc)] at h9
          exact h9
        · refine AF.iload dX3_findNearestLanding_38 rfl ?_
          refine AF.istore_n dX3_findNearestLanding_40 (by decide) ?_
          refine AF.inc1 dX3_findNearestLanding_41 rfl (by decide) ?_
          refine AF.goto 10 dX3_findNearestLanding_44 (by decide) ?_
          have h9 := ih (j + 1) (by omega) (by omega)
          simp only [bst] at h9
          rw [if_pos (by rw [← hP, decide_eq_true_iff] at *; exact lcmp_nge hc)] at h9
          exact h9
  have b1 : bst P 1 = 0 := bst_1
  refine AF.aload_n dX3_findNearestLanding_0 rfl ?_
  refine AF.v1 dX3_findNearestLanding_1 kv_X3_68 (hs) (by assumption) rfl rfl rfl (Nat.le_of_ble_eq_true rfl) (by decide) rfl ?_
  by_cases hz : J.length = 0
  · refine AF.istore_n dX3_findNearestLanding_4 (by decide) ?_
    refine AF.iconst (0) dX3_findNearestLanding_5 (by decide) ?_
    refine AF.istore_n dX3_findNearestLanding_6 (by decide) ?_
    refine AF.iconst (1) dX3_findNearestLanding_7 (by decide) ?_
    refine AF.istore dX3_findNearestLanding_8 (by decide) ?_
    refine AF.iload dX3_findNearestLanding_10 rfl ?_
    refine AF.aload_n dX3_findNearestLanding_12 rfl ?_
    refine AF.getfield dX3_findNearestLanding_13 fl_X3_18 (by assumption) rfl ?_
    refine AF.icmp_ge 47 dX3_findNearestLanding_16 (by decide) (fun hb => ?_) (fun hb => ?_)
    · refine AF.iload_n dX3_findNearestLanding_47 rfl ?_
      exact AF.ireturn dX3_findNearestLanding_48 rfl ⟨by rw [hz]; rfl, rfl⟩
    · exact absurd (show nI J.length ≤ nI 1 by rw [nI_leI (by omega) (by omega)]; omega) hb
  · refine AF.istore_n dX3_findNearestLanding_4 (by decide) ?_
    refine AF.iconst (nI 0) dX3_findNearestLanding_5 (by decide) ?_
    refine AF.istore_n dX3_findNearestLanding_6 (by decide) ?_
    refine AF.iconst (nI 1) dX3_findNearestLanding_7 (by decide) ?_
    refine AF.istore dX3_findNearestLanding_8 (by decide) ?_
    have h9 := loop (J.length - 1) 1 (by omega) (by omega)
    rw [b1] at h9
    exact h9
set_option maxRecDepth 100000 in
theorem X3_countCrossingPairs_ok (hJ : JA G F a J cap w) (hI : JI J) (hcap : cap ≤ 100) : AC G mX3_countCrossingPairs 2 0 0 [.ref a] F (AV (some (.int (nI (prs J cap w)))) F) := by
  have hs := X3_sum_ok hJ
  have hL := fun j hj => X3_landingOf_ok hJ hI hcap (dem J) j (dem_le hI hJ.choose_spec.choose_spec.2.1) hj
  obtain ⟨f, g, ⟨h0, h1, h2⟩, hn, hr⟩ := hJ
  refine AC.of [some (.ref a), none, none, none, none] rfl (by decide) (Nat.le_of_ble_eq_true rfl) rfl ?_
  have loop : ∀ k j z4, j + k = J.length → AF G mX3_countCrossingPairs 2 0 0 (AV (some (.int (nI (prs J cap w)))) F) F 9 [some (.ref a), some (.int (nI (dem J))), some (.int (nI (sumN (fun j => cntB (crs J cap w j) J.length) j))), some (.int (nI j)), z4] [] := by
    intro k
    induction k with
    | zero =>
      intro j z4 hj
      refine AF.iload_n dX3_countCrossingPairs_9 rfl ?_
      refine AF.aload_n dX3_countCrossingPairs_10 rfl ?_
      refine AF.getfield dX3_countCrossingPairs_11 fl_X3_18 (by assumption) rfl ?_
      refine AF.icmp_ge 76 dX3_countCrossingPairs_14 (by decide) (fun hb => ?_) (fun hb => ?_)
      · refine AF.iload_n dX3_countCrossingPairs_76 rfl ?_
        exact AF.ireturn dX3_countCrossingPairs_77 rfl ⟨by rw [show j = J.length by omega]; rfl, rfl⟩
      · exact absurd (by rw [nI_leI (by omega) (by omega)]; omega) hb
    | succ k ih =>
      intro j z4 hj
      refine AF.iload_n dX3_countCrossingPairs_9 rfl ?_
      refine AF.aload_n dX3_countCrossingPairs_10 rfl ?_
      refine AF.getfield dX3_countCrossingPairs_11 fl_X3_18 (by assumption) rfl ?_
      refine AF.icmp_ge 76 dX3_countCrossingPairs_14 (by decide) (fun hb => ?_) (fun hb => ?_)
      · rw [nI_leI (by omega) (by omega)] at hb
        omega
      · have inner : ∀ k2 o, o + k2 = J.length → AF G mX3_countCrossingPairs 2 0 0 (AV (some (.int (nI (prs J cap w)))) F) F 20 [some (.ref a), some (.int (nI (dem J))), some (.int (nI (sumN (fun j => cntB (crs J cap w j) J.length) j + cntB (crs J cap w j) o))), some (.int (nI j)), some (.int (nI o))] [] := by
          intro k2
          induction k2 with
          | zero =>
            intro o ho
            refine AF.iload dX3_countCrossingPairs_20 rfl ?_
            refine AF.aload_n dX3_countCrossingPairs_22 rfl ?_
            refine AF.getfield dX3_countCrossingPairs_23 fl_X3_18 (by assumption) rfl ?_
            refine AF.icmp_ge 70 dX3_countCrossingPairs_26 (by decide) (fun hb2 => ?_) (fun hb2 => ?_)
            · refine AF.inc1 dX3_countCrossingPairs_70 rfl (by decide) ?_
              refine AF.goto 9 dX3_countCrossingPairs_73 (by decide) ?_
              have h9 := ih (j + 1) (some (.int (nI o))) (by omega)
              simp only [sumN] at h9
              rw [show o = J.length by omega] at h9 ⊢
              exact h9
            · exact absurd (by rw [nI_leI (by omega) (by omega)]; omega) hb2
          | succ k2 ih2 =>
            intro o ho
            refine AF.iload dX3_countCrossingPairs_20 rfl ?_
            refine AF.aload_n dX3_countCrossingPairs_22 rfl ?_
            refine AF.getfield dX3_countCrossingPairs_23 fl_X3_18 (by assumption) rfl ?_
            refine AF.icmp_ge 70 dX3_countCrossingPairs_26 (by decide) (fun hb2 => ?_) (fun hb2 => ?_)
            · rw [nI_leI (by omega) (by omega)] at hb2
              omega
            · refine AF.aload_n dX3_countCrossingPairs_29 rfl ?_
              refine AF.getfield dX3_countCrossingPairs_30 fl_X3_9 (by assumption) rfl ?_
              refine AF.iload_n dX3_countCrossingPairs_33 rfl ?_
              refine AF.iaload (_) dX3_countCrossingPairs_34 (by assumption) rfl (by omega) (by decide) ?_
              refine AF.aload_n dX3_countCrossingPairs_35 rfl ?_
              refine AF.getfield dX3_countCrossingPairs_36 fl_X3_9 (by assumption) rfl ?_
              refine AF.iload dX3_countCrossingPairs_39 rfl ?_
              refine AF.iaload (_) dX3_countCrossingPairs_41 (by assumption) rfl (by omega) (by decide) ?_
              rw [(hr j (by omega)).1, (hr o (by omega)).1]
              have q1 := (hI j).1
              have q2 := (hI o).1
              refine AF.icmp_ge 64 dX3_countCrossingPairs_42 (by decide) (fun hc => ?_) (fun hc => ?_)
              · rw [nI_leI (by omega) (by omega)] at hc
                refine AF.inc1 dX3_countCrossingPairs_64 rfl (by decide) ?_
                refine AF.goto 20 dX3_countCrossingPairs_67 (by decide) ?_
                have h9 := ih2 (o + 1) (by omega)
                simp only [cntB] at h9
                rw [if_neg (by simp only [crs, Bool.and_eq_true, decide_eq_true_iff]; omega)] at h9
                exact h9
              · rw [nI_leI (by omega) (by omega)] at hc
                refine AF.aload_n dX3_countCrossingPairs_45 rfl ?_
                refine AF.iload_n dX3_countCrossingPairs_46 rfl ?_
                refine AF.iload_n dX3_countCrossingPairs_47 rfl ?_
                refine AF.v1 dX3_countCrossingPairs_48 kv_X3_72 ((hL j (by omega))) (by assumption) rfl rfl rfl (Nat.le_of_ble_eq_true rfl) (by decide) rfl ?_
                refine AF.aload_n dX3_countCrossingPairs_51 rfl ?_
                refine AF.iload dX3_countCrossingPairs_52 rfl ?_
                refine AF.iload_n dX3_countCrossingPairs_54 rfl ?_
                refine AF.v1 dX3_countCrossingPairs_55 kv_X3_72 ((hL o (by omega))) (by assumption) rfl rfl rfl (Nat.le_of_ble_eq_true rfl) (by decide) rfl ?_
                refine AF.icmp_le 64 dX3_countCrossingPairs_58 (by decide) (fun hc2 => ?_) (fun hc2 => ?_)
                · refine AF.inc1 dX3_countCrossingPairs_64 rfl (by decide) ?_
                  refine AF.goto 20 dX3_countCrossingPairs_67 (by decide) ?_
                  have h9 := ih2 (o + 1) (by omega)
                  simp only [cntB] at h9
                  rw [if_neg (by simp only [crs, Bool.and_eq_true, decide_eq_true_iff]; exact fun q => absurd q.2 (Int32.not_lt.mpr hc2))] at h9
                  exact h9
                · refine AF.inc1 dX3_countCrossingPairs_61 rfl (by decide) ?_
                  refine AF.inc1 dX3_countCrossingPairs_64 rfl (by decide) ?_
                  refine AF.goto 20 dX3_countCrossingPairs_67 (by decide) ?_
                  have h9 := ih2 (o + 1) (by omega)
                  simp only [cntB] at h9
                  rw [if_pos (by simp only [crs, Bool.and_eq_true, decide_eq_true_iff]; exact ⟨by omega, Int32.not_le.mp hc2⟩), ← Nat.add_assoc] at h9
                  exact h9
        refine AF.iconst (nI 0) dX3_countCrossingPairs_17 (by decide) ?_
        refine AF.istore dX3_countCrossingPairs_18 (by decide) ?_
        exact inner J.length 0 (by omega)
  refine AF.aload_n dX3_countCrossingPairs_0 rfl ?_
  refine AF.v1 dX3_countCrossingPairs_1 kv_X3_68 (hs) (by assumption) rfl rfl rfl (Nat.le_of_ble_eq_true rfl) (by decide) rfl ?_
  refine AF.istore_n dX3_countCrossingPairs_4 (by decide) ?_
  refine AF.iconst (0) dX3_countCrossingPairs_5 (by decide) ?_
  refine AF.istore_n dX3_countCrossingPairs_6 (by decide) ?_
  refine AF.iconst (0) dX3_countCrossingPairs_7 (by decide) ?_
  refine AF.istore_n dX3_countCrossingPairs_8 (by decide) ?_
  exact loop J.length 0 none (by omega)
set_option maxRecDepth 100000 in
theorem X3_problemOfAdding_ok (hJ : JA G F a J cap w) (x : Int32) : AC G mX3_problemOfAdding 1 0 0 [.ref a, .int x] F (AV (some (.ref (gk G (pAdd J x)))) F) := by
  have hT := X3_isTaken_ok hJ x
  obtain ⟨f, g, ⟨h0, h1, h2⟩, hn, hr⟩ := hJ
  refine AC.of [some (.ref a), some (.int x)] rfl (by decide) (Nat.le_of_ble_eq_true rfl) rfl (AF.ok fun hG => ?_)
  unfold pAdd
  refine AF.iload_n dX3_problemOfAdding_0 rfl ?_
  refine AF.if_lt 10 dX3_problemOfAdding_1 (by decide) (fun c1 => ?_) (fun c1 => ?_)
  · refine AF.getstatic dX3_problemOfAdding_10 gs_X3_34 (pz hG 2 (by decide)) ?_
    exact AF.areturn dX3_problemOfAdding_13 rfl (Or.inl ⟨_, rfl⟩) (Or.inr ⟨_, rfl⟩) ⟨by rw [if_pos (Or.inl c1)], rfl⟩
  · refine AF.iload_n dX3_problemOfAdding_4 rfl ?_
    refine AF.bipush (99) dX3_problemOfAdding_5 (by decide) ?_
    refine AF.icmp_le 14 dX3_problemOfAdding_7 (by decide) (fun c2 => ?_) (fun c2 => ?_)
    · refine AF.aload_n dX3_problemOfAdding_14 rfl ?_
      refine AF.iload_n dX3_problemOfAdding_15 rfl ?_
      rw [if_neg (by rintro (q | q); exact c1 q; exact absurd q (Int32.not_lt.mpr c2))]
      refine AF.v1 dX3_problemOfAdding_16 kv_X3_40 (hT) (by assumption) rfl rfl rfl (Nat.le_of_ble_eq_true rfl) (by decide) rfl ?_
      refine AF.if_eq 26 dX3_problemOfAdding_19 (by decide) (fun c3 => ?_) (fun c3 => ?_)
      · refine AF.aload_n dX3_problemOfAdding_26 rfl ?_
        refine AF.getfield dX3_problemOfAdding_27 fl_X3_18 (by assumption) rfl ?_
        refine AF.bipush (10) dX3_problemOfAdding_30 (by decide) ?_
        rw [if_neg (by rw [bI_z c3]; decide)]
        refine AF.icmp_ge 41 dX3_problemOfAdding_32 (by decide) (fun c4 => ?_) (fun c4 => ?_)
        · refine AF.getstatic dX3_problemOfAdding_41 gs_X3_50 (pz hG 4 (by decide)) ?_
          refine AF.areturn dX3_problemOfAdding_44 rfl (Or.inl ⟨_, rfl⟩) (Or.inr ⟨_, rfl⟩) ⟨?_, rfl⟩
          rw [if_neg]
          have : ¬ (nI J.length < nI 10) := Int32.not_lt.mpr c4
          rw [nI_ltI (by omega) (by omega)] at this
          exact this
        · refine AF.getstatic dX3_problemOfAdding_35 gs_X3_47 (pz hG 0 (by decide)) ?_
          refine AF.goto 44 dX3_problemOfAdding_38 (by decide) ?_
          refine AF.areturn dX3_problemOfAdding_44 rfl (Or.inl ⟨_, rfl⟩) (Or.inr ⟨_, rfl⟩) ⟨?_, rfl⟩
          have : (nI J.length < nI 10) := Int32.not_le.mp c4
          rw [nI_ltI (by omega) (by omega)] at this
          rw [if_pos this]
      · refine AF.getstatic dX3_problemOfAdding_22 gs_X3_44 (pz hG 3 (by decide)) ?_
        exact AF.areturn dX3_problemOfAdding_25 rfl (Or.inl ⟨_, rfl⟩) (Or.inr ⟨_, rfl⟩) ⟨by rw [if_pos (bI_n c3)], rfl⟩
    · refine AF.getstatic dX3_problemOfAdding_10 gs_X3_34 (pz hG 2 (by decide)) ?_
      exact AF.areturn dX3_problemOfAdding_13 rfl (Or.inl ⟨_, rfl⟩) (Or.inr ⟨_, rfl⟩) ⟨by rw [if_pos (Or.inr (Int32.not_le.mp c2))], rfl⟩
set_option maxRecDepth 100000 in
theorem X3_problemOfOpening_ok (hJ : JA G F a J cap w) (x o : Int32) : AC G mX3_problemOfOpening 1 0 0 [.ref a, .int x, .int o] F (AV (some (.ref (gk G (pOpn J.length x o)))) F) := by
  have hT := X3_has_ok hJ x
  obtain ⟨f, g, ⟨h0, h1, h2⟩, hn, hr⟩ := hJ
  refine AC.of [some (.ref a), some (.int x), some (.int o)] rfl (by decide) (Nat.le_of_ble_eq_true rfl) rfl (AF.ok fun hG => ?_)
  unfold pOpn
  refine AF.aload_n dX3_problemOfOpening_0 rfl ?_
  refine AF.iload_n dX3_problemOfOpening_1 rfl ?_
  refine AF.v1 dX3_problemOfOpening_2 kv_X3_53 (hT) (by assumption) rfl rfl rfl (Nat.le_of_ble_eq_true rfl) (by decide) rfl ?_
  refine AF.if_ne 12 dX3_problemOfOpening_5 (by decide) (fun c1 => ?_) (fun c1 => ?_)
  · rw [if_neg (by rw [hasB, bI_n c1]; decide)]
    refine AF.iload_n dX3_problemOfOpening_12 rfl ?_
    refine AF.if_lt 22 dX3_problemOfOpening_13 (by decide) (fun c2 => ?_) (fun c2 => ?_)
    · refine AF.getstatic dX3_problemOfOpening_22 gs_X3_34 (pz hG 2 (by decide)) ?_
      refine AF.goto 31 dX3_problemOfOpening_25 (by decide) ?_
      exact AF.areturn dX3_problemOfOpening_31 rfl (Or.inl ⟨_, rfl⟩) (Or.inr ⟨_, rfl⟩) ⟨by rw [if_pos (Or.inl c2)], rfl⟩
    · refine AF.iload_n dX3_problemOfOpening_16 rfl ?_
      refine AF.bipush (10) dX3_problemOfOpening_17 (by decide) ?_
      refine AF.icmp_le 28 dX3_problemOfOpening_19 (by decide) (fun c3 => ?_) (fun c3 => ?_)
      · refine AF.getstatic dX3_problemOfOpening_28 gs_X3_47 (pz hG 0 (by decide)) ?_
        exact AF.areturn dX3_problemOfOpening_31 rfl (Or.inl ⟨_, rfl⟩) (Or.inr ⟨_, rfl⟩) ⟨by rw [if_neg (by rintro (q | q); exact c2 q; exact absurd q (Int32.not_lt.mpr c3))], rfl⟩
      · refine AF.getstatic dX3_problemOfOpening_22 gs_X3_34 (pz hG 2 (by decide)) ?_
        refine AF.goto 31 dX3_problemOfOpening_25 (by decide) ?_
        exact AF.areturn dX3_problemOfOpening_31 rfl (Or.inl ⟨_, rfl⟩) (Or.inr ⟨_, rfl⟩) ⟨by rw [if_pos (Or.inr (Int32.not_le.mp c3))], rfl⟩
  · refine AF.getstatic dX3_problemOfOpening_8 gs_X3_56 (pz hG 1 (by decide)) ?_
    exact AF.areturn dX3_problemOfOpening_11 rfl (Or.inl ⟨_, rfl⟩) (Or.inr ⟨_, rfl⟩) ⟨by rw [if_pos (show hasB J.length x = false from bI_z c1)], rfl⟩
set_option maxRecDepth 100000 in
theorem X3_problemOfCapacity_ok (x : Int32) : AC G mX3_problemOfCapacity 0 0 0 [.ref a, .int x] F (AV (some (.ref (gk G (pCap x)))) F) := by
  refine AC.of [some (.ref a), some (.int x)] rfl (by decide) (Nat.le_of_ble_eq_true rfl) rfl (AF.ok fun hG => ?_)
  unfold pCap
  refine AF.iload_n dX3_problemOfCapacity_0 rfl ?_
  refine AF.if_lt 10 dX3_problemOfCapacity_1 (by decide) (fun c1 => ?_) (fun c1 => ?_)
  · refine AF.getstatic dX3_problemOfCapacity_10 gs_X3_34 (pz hG 2 (by decide)) ?_
    refine AF.goto 19 dX3_problemOfCapacity_13 (by decide) ?_
    exact AF.areturn dX3_problemOfCapacity_19 rfl (Or.inl ⟨_, rfl⟩) (Or.inr ⟨_, rfl⟩) ⟨by rw [if_pos (Or.inl c1)], rfl⟩
  · refine AF.iload_n dX3_problemOfCapacity_4 rfl ?_
    refine AF.bipush (100) dX3_problemOfCapacity_5 (by decide) ?_
    refine AF.icmp_le 16 dX3_problemOfCapacity_7 (by decide) (fun c2 => ?_) (fun c2 => ?_)
    · refine AF.getstatic dX3_problemOfCapacity_16 gs_X3_47 (pz hG 0 (by decide)) ?_
      exact AF.areturn dX3_problemOfCapacity_19 rfl (Or.inl ⟨_, rfl⟩) (Or.inr ⟨_, rfl⟩) ⟨by rw [if_neg (by rintro (q | q); exact c1 q; exact absurd q (Int32.not_lt.mpr c2))], rfl⟩
    · refine AF.getstatic dX3_problemOfCapacity_10 gs_X3_34 (pz hG 2 (by decide)) ?_
      refine AF.goto 19 dX3_problemOfCapacity_13 (by decide) ?_
      exact AF.areturn dX3_problemOfCapacity_19 rfl (Or.inl ⟨_, rfl⟩) (Or.inr ⟨_, rfl⟩) ⟨by rw [if_pos (Or.inr (Int32.not_le.mp c2))], rfl⟩
set_option maxRecDepth 100000 in
theorem X3_problemOfWind_ok (x : Int32) : AC G mX3_problemOfWind 0 0 0 [.ref a, .int x] F (AV (some (.ref (gk G (pWnd x)))) F) := by
  refine AC.of [some (.ref a), some (.int x)] rfl (by decide) (Nat.le_of_ble_eq_true rfl) rfl (AF.ok fun hG => ?_)
  unfold pWnd
  refine AF.iload_n dX3_problemOfWind_0 rfl ?_
  refine AF.bipush (-9) dX3_problemOfWind_1 (by decide) ?_
  refine AF.icmp_lt 12 dX3_problemOfWind_3 (by decide) (fun c1 => ?_) (fun c1 => ?_)
  · refine AF.getstatic dX3_problemOfWind_12 gs_X3_34 (pz hG 2 (by decide)) ?_
    refine AF.goto 21 dX3_problemOfWind_15 (by decide) ?_
    exact AF.areturn dX3_problemOfWind_21 rfl (Or.inl ⟨_, rfl⟩) (Or.inr ⟨_, rfl⟩) ⟨by rw [if_pos (Or.inl c1)], rfl⟩
  · refine AF.iload_n dX3_problemOfWind_6 rfl ?_
    refine AF.bipush (9) dX3_problemOfWind_7 (by decide) ?_
    refine AF.icmp_le 18 dX3_problemOfWind_9 (by decide) (fun c2 => ?_) (fun c2 => ?_)
    · refine AF.getstatic dX3_problemOfWind_18 gs_X3_47 (pz hG 0 (by decide)) ?_
      exact AF.areturn dX3_problemOfWind_21 rfl (Or.inl ⟨_, rfl⟩) (Or.inr ⟨_, rfl⟩) ⟨by rw [if_neg (by rintro (q | q); exact c1 q; exact absurd q (Int32.not_lt.mpr c2))], rfl⟩
    · refine AF.getstatic dX3_problemOfWind_12 gs_X3_34 (pz hG 2 (by decide)) ?_
      refine AF.goto 21 dX3_problemOfWind_15 (by decide) ?_
      exact AF.areturn dX3_problemOfWind_21 rfl (Or.inl ⟨_, rfl⟩) (Or.inr ⟨_, rfl⟩) ⟨by rw [if_pos (Or.inr (Int32.not_le.mp c2))], rfl⟩
end

