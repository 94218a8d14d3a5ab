/-! Figures: its picture; the methods that read, and the moves. -/
theorem gd_set {α : Type} {L : List α} {z : α} {j i : Nat} {q : α} : (L.set j q).getD i z = if i = j ∧ j < L.length then q else L.getD i z := by
  rw [List.getD_eq_getElem?_getD, List.getElem?_set, List.getD_eq_getElem?_getD]
  by_cases h : j = i
  · subst h
    by_cases h2 : j < L.length
    · simp [h2]
    · simp [h2, List.getElem?_eq_none (Nat.not_lt.mp h2)]
  · rw [if_neg h, if_neg (fun q => h q.1.symm)]
theorem gd_app {α : Type} {L : List α} {z : α} {i : Nat} {q : α} : (L ++ [q]).getD i z = if i = L.length then q else L.getD i z := by
  rw [List.getD_eq_getElem?_getD, List.getD_eq_getElem?_getD, List.getElem?_append]
  by_cases h : i < L.length
  · rw [if_pos h, if_neg (by omega)]
  · rw [if_neg h]
    by_cases h2 : i = L.length
    · subst h2; simp
    · rw [if_neg h2, List.getElem?_eq_none (by simp; omega), List.getElem?_eq_none (by omega)]
theorem gd_era {α : Type} {L : List α} {z : α} {k i : Nat} : (L.eraseIdx k).getD i z = if i < k then L.getD i z else L.getD (i + 1) z := by
  rw [List.getD_eq_getElem?_getD, List.getD_eq_getElem?_getD, List.getD_eq_getElem?_getD, List.getElem?_eraseIdx]
  split <;> rfl
abbrev fg (Fg : List (List Sp)) (i : Nat) : List Sp := Fg.getD i []
def g3 (L : List Sp) (k : Nat) : Sp := L.getD k (0, 0, 0)
def RowR (L : List Sp) (i : Nat) (dl jt op : Nat → Int32) : Prop := ∀ k, k < L.length → dl (i * 8 + k) = nI (g3 L k).1 ∧ jt (i * 8 + k) = nI (g3 L k).2.1 ∧ op (i * 8 + k) = nI (g3 L k).2.2
def FR (Fg : List (List Sp)) (sc dl jt op : Nat → Int32) : Prop := Fg.length ≤ 5 ∧ ∀ i, i < Fg.length → (fg Fg i).length ≤ 8 ∧ sc i = nI (fg Fg i).length ∧ RowR (fg Fg i) i dl jt op
def FA0 (G : GA) (F : AH) (a n : Nat) (sc dl jt op : Nat → Int32) : Prop :=
  F.2 a = some (.inr (0, [.ref (a + 1), .ref (a + 2), .ref (a + 3), .ref (a + 4), .int (nI n)])) ∧ F.2 (a + 1) = some (.inl (gC G 0, 5, .inl sc)) ∧ F.2 (a + 2) = some (.inl (gC G 0, 40, .inl dl)) ∧ F.2 (a + 3) = some (.inl (gC G 0, 40, .inl jt)) ∧ F.2 (a + 4) = some (.inl (gC G 0, 40, .inl op))
def FA (G : GA) (F : AH) (a : Nat) (Fg : List (List Sp)) : Prop := ∃ sc dl jt op, FA0 G F a Fg.length sc dl jt op ∧ FR Fg sc dl jt op
theorem FA.kept {G : GA} {F F' : AH} {a : Nat} {Fg : List (List Sp)} (h : FA G F a Fg) (e : ∀ q, a ≤ q → q < a + 5 → F'.2 q = F.2 q) : FA G F' a Fg := by
  obtain ⟨sc, dl, jt, op, ⟨h0, h1, h2, h3, h4⟩, hr⟩ := h
  exact ⟨sc, dl, jt, op, ⟨(e a (by omega) (by omega)).trans h0, (e (a + 1) (by omega) (by omega)).trans h1, (e (a + 2) (by omega) (by omega)).trans h2, (e (a + 3) (by omega) (by omega)).trans h3, (e (a + 4) (by omega) (by omega)).trans h4⟩, hr⟩
/-- the greatest, 0 if there is none -/
def mxN (g : Nat → Nat) : Nat → Nat
  | 0 => 0
  | n + 1 => if mxN g n < g n then g n else mxN g n
def fln (L : List Sp) : Nat := mxN (fun k => (g3 L k).1) L.length
def fus (L : List Sp) (x : Nat) : Bool := (fnd (fun k => decide ((g3 L k).2.1 = x)) L.length).isSome
/-- delays, jets and openings are within their ranges -/
def FI (Fg : List (List Sp)) (n : Nat) : Prop := ∀ i k, k < (fg Fg i).length → (g3 (fg Fg i) k).1 ≤ 20 ∧ (g3 (fg Fg i) k).2.1 < n ∧ (g3 (fg Fg i) k).2.2 ≤ 10
theorem mxN_le {g : Nat → Nat} {b : Nat} : ∀ n, (∀ j, j < n → g j ≤ b) → mxN g n ≤ b
  | 0, _ => Nat.zero_le _
  | n + 1, h => by
    simp only [mxN]
    have := mxN_le n (fun j hj => h j (by omega))
    have := h n (by omega)
    split <;> omega
def FW (G : GA) (a : Nat) (Fg : List (List Sp)) (v : Option Value) (F0 : AH) : AR → AH → Prop := fun r F' => r = .inl v ∧ FA G F' a Fg ∧ Fr a (a + 5) F0 F'
def FW0 (G : GA) (a n : Nat) (sc dl jt op : Nat → Int32) (v : Option Value) (F0 : AH) : AR → AH → Prop := fun r F' => r = .inl v ∧ FA0 G F' a n sc dl jt op ∧ Fr a (a + 5) F0 F'
section
variable {G : GA} {F : AH} {a : Nat} {Fg : List (List Sp)}
set_option maxRecDepth 100000 in
theorem X8_slot_ok (i k : Nat) : AC G mX8_slot 0 0 0 [.int (nI i), .int (nI k)] F (AV (some (.int (nI (i * 8 + k)))) F) := by
  refine AC.of [some (.int (nI i)), some (.int (nI k))] rfl (by decide) (Nat.le_of_ble_eq_true rfl) rfl ?_
  refine AF.iload_n dX8_slot_0 rfl ?_
  refine AF.bipush (nI 8) dX8_slot_1 (by decide) ?_
  refine AF.imul dX8_slot_3 ?_
  refine AF.iload_n dX8_slot_4 rfl ?_
  refine AF.iadd dX8_slot_5 ?_
  refine AF.ireturn dX8_slot_6 rfl ⟨?_, rfl⟩
  rw [pk_mul, nI_add]
set_option maxRecDepth 100000 in
theorem X2_has_ok (hF : FA G F a Fg) (x : Int32) : AC G mX2_has 0 0 0 [.ref a, .int x] F (AV (some (.int (bI (hasB Fg.length x)))) F) := by
  obtain ⟨sc, dl, jt, op, ⟨h0, h1, h2, h3, h4⟩, hr⟩ := hF
  refine AC.of [some (.ref a), some (.int x)] rfl (by decide) (Nat.le_of_ble_eq_true rfl) rfl ?_
  unfold hasB
  refine AF.iload_n dX2_has_0 rfl ?_
  refine AF.if_lt 16 dX2_has_1 (by decide) (fun c1 => ?_) (fun c1 => ?_)
  · refine AF.iconst (0) dX2_has_16 (by decide) ?_
    exact AF.zreturn dX2_has_17 rfl rfl ⟨by rw [decide_eq_false (Int32.not_le.mpr c1)]; rfl, rfl⟩
  · refine AF.iload_n dX2_has_4 rfl ?_
    refine AF.aload_n dX2_has_5 rfl ?_
    refine AF.getfield dX2_has_6 fl_X2_24 (by assumption) rfl ?_
    refine AF.icmp_ge 16 dX2_has_9 (by decide) (fun c2 => ?_) (fun c2 => ?_)
    · refine AF.iconst (0) dX2_has_16 (by decide) ?_
      exact AF.zreturn dX2_has_17 rfl rfl ⟨by rw [decide_eq_false (Int32.not_lt.mpr c2), Bool.and_false]; rfl, rfl⟩
    · refine AF.iconst (1) dX2_has_12 (by decide) ?_
      refine AF.goto 17 dX2_has_13 (by decide) ?_
      exact AF.zreturn dX2_has_17 rfl rfl ⟨by rw [decide_eq_true (Int32.not_lt.mp c1), decide_eq_true (Int32.not_le.mp c2)]; rfl, rfl⟩
theorem hasB_nI {n : Nat} {x : Int32} (hn : n < 2 ^ 31) (h : hasB n x = true) : ∃ j, j < n ∧ x = nI j := by
  unfold hasB at h
  rw [Bool.and_eq_true, decide_eq_true_iff, decide_eq_true_iff] at h
  rcases pk_ix x hn with q | q | q
  · exact absurd h.1 (Int32.not_le.mpr q)
  · exact absurd h.2 (Int32.not_lt.mpr q)
  · exact q
theorem hasB_of {n j : Nat} (hn : n < 2 ^ 31) (h : j < n) : hasB n (nI j) = true := by
  unfold hasB
  rw [decide_eq_true (nI_pos' (by omega)), decide_eq_true (nI_lt h hn)]
  rfl
/-- is there such a figure, and such a step in it -/
def hsB (Fg : List (List Sp)) (x y : Int32) : Bool := hasB Fg.length x && hasB (fg Fg x.toNatClampNeg).length y
set_option maxRecDepth 100000 in
theorem X2_hasStep_ok (hF : FA G F a Fg) (x y : Int32) : AC G mX2_hasStep 1 0 0 [.ref a, .int x, .int y] F (AV (some (.int (bI (hsB Fg x y)))) F) := by
  have hT := X2_has_ok hF x
  obtain ⟨sc, dl, jt, op, ⟨h0, h1, h2, h3, h4⟩, hr⟩ := hF
  refine AC.of [some (.ref a), some (.int x), some (.int y)] rfl (by decide) (Nat.le_of_ble_eq_true rfl) rfl ?_
  unfold hsB
  have h5 := hr.1
  refine AF.aload_n dX2_hasStep_0 rfl ?_
  refine AF.iload_n dX2_hasStep_1 rfl ?_
  refine AF.v1 dX2_hasStep_2 kv_X2_34 (hT) (by assumption) rfl rfl rfl (Nat.le_of_ble_eq_true rfl) (by decide) rfl ?_
  refine AF.if_eq 26 dX2_hasStep_5 (by decide) (fun c0 => ?_) (fun c0 => ?_)
  · rw [bI_z c0, Bool.false_and]
    refine AF.iconst (0) dX2_hasStep_26 (by decide) ?_
    exact AF.zreturn dX2_hasStep_27 rfl rfl ⟨rfl, rfl⟩
  · obtain ⟨i, hi, rfl⟩ := hasB_nI (by omega) (bI_n c0)
    rw [bI_n c0, Bool.true_and, nI_clamp (by omega)]
    have h8 := (hr.2 i hi).1
    unfold hasB
    refine AF.iload_n dX2_hasStep_8 rfl ?_
    refine AF.if_lt 26 dX2_hasStep_9 (by decide) (fun c1 => ?_) (fun c1 => ?_)
    · refine AF.iconst (0) dX2_hasStep_26 (by decide) ?_
      exact AF.zreturn dX2_hasStep_27 rfl rfl ⟨by rw [decide_eq_false (Int32.not_le.mpr c1)]; rfl, rfl⟩
    · refine AF.iload_n dX2_hasStep_12 rfl ?_
      refine AF.aload_n dX2_hasStep_13 rfl ?_
      refine AF.getfield dX2_hasStep_14 fl_X2_9 (by assumption) rfl ?_
      refine AF.iload_n dX2_hasStep_17 rfl ?_
      refine AF.iaload (_) dX2_hasStep_18 (by assumption) rfl (by omega) (by decide) ?_
      rw [(hr.2 i hi).2.1]
      refine AF.icmp_ge 26 dX2_hasStep_19 (by decide) (fun c2 => ?_) (fun c2 => ?_)
      · refine AF.iconst (0) dX2_hasStep_26 (by decide) ?_
        exact AF.zreturn dX2_hasStep_27 rfl rfl ⟨by rw [decide_eq_false (Int32.not_lt.mpr c2), Bool.and_false]; rfl, rfl⟩
      · refine AF.iconst (1) dX2_hasStep_22 (by decide) ?_
        refine AF.goto 27 dX2_hasStep_23 (by decide) ?_
        exact AF.zreturn dX2_hasStep_27 rfl rfl ⟨by rw [decide_eq_true (Int32.not_lt.mp c1), decide_eq_true (Int32.not_le.mp c2)]; rfl, rfl⟩
set_option maxRecDepth 100000 in
theorem X2_problemOfAdding_ok (hF : FA G F a Fg) : AC G mX2_problemOfAdding 0 0 0 [.ref a] F (AV (some (.ref (gk G (if Fg.length < 5 then 0 else 4)))) F) := by
  obtain ⟨sc, dl, jt, op, ⟨h0, h1, h2, h3, h4⟩, hr⟩ := hF
  have h5 := hr.1
  refine AC.of [some (.ref a)] rfl (by decide) (Nat.le_of_ble_eq_true rfl) rfl (AF.ok fun hG => ?_)
  refine AF.aload_n dX2_problemOfAdding_0 rfl ?_
  refine AF.getfield dX2_problemOfAdding_1 fl_X2_24 (by assumption) rfl ?_
  refine AF.iconst (nI 5) dX2_problemOfAdding_4 (by decide) ?_
  refine AF.icmp_ge 14 dX2_problemOfAdding_5 (by decide) (fun c1 => ?_) (fun c1 => ?_)
  · rw [nI_leI (by omega) (by omega)] at c1
    refine AF.getstatic dX2_problemOfAdding_14 gs_X2_44 (pz hG 4 (by decide)) ?_
    exact AF.areturn dX2_problemOfAdding_17 rfl (Or.inl ⟨_, rfl⟩) (Or.inr ⟨_, rfl⟩) ⟨by rw [if_neg (by omega)], rfl⟩
  · rw [nI_leI (by omega) (by omega)] at c1
    refine AF.getstatic dX2_problemOfAdding_8 gs_X2_38 (pz hG 0 (by decide)) ?_
    refine AF.goto 17 dX2_problemOfAdding_11 (by decide) ?_
    exact AF.areturn dX2_problemOfAdding_17 rfl (Or.inl ⟨_, rfl⟩) (Or.inr ⟨_, rfl⟩) ⟨by rw [if_pos (by omega)], rfl⟩
set_option maxRecDepth 100000 in
theorem X2_lengthOf_ok (hF : FA G F a Fg) {n : Nat} (hI : FI Fg n) (i : Nat) (hi : i < Fg.length) : AC G mX2_lengthOf 0 0 0 [.ref a, .int (nI i)] F (AV (some (.int (nI (fln (fg Fg i))))) F) := by
  obtain ⟨sc, dl, jt, op, ⟨h0, h1, h2, h3, h4⟩, hr⟩ := hF
  have h5 := hr.1
  obtain ⟨h8, hsc, hrow⟩ := hr.2 i hi
  refine AC.of [some (.ref a), some (.int (nI i)), none, none, none] rfl (by decide) (Nat.le_of_ble_eq_true rfl) rfl ?_
  have loop : ∀ k j z, j + k = (fg Fg i).length → AF G mX2_lengthOf 0 0 0 (AV (some (.int (nI (fln (fg Fg i))))) F) F 4 [some (.ref a), some (.int (nI i)), some (.int (nI (mxN (fun k => (g3 (fg Fg i) k).1) j))), some (.int (nI j)), z] [] := by
    intro k
    induction k with
    | zero =>
      intro j z hj
      refine AF.iload_n dX2_lengthOf_4 rfl ?_
      refine AF.aload_n dX2_lengthOf_5 rfl ?_
      refine AF.getfield dX2_lengthOf_6 fl_X2_9 (by assumption) rfl ?_
      refine AF.iload_n dX2_lengthOf_9 rfl ?_
      refine AF.iaload (_) dX2_lengthOf_10 (by assumption) rfl (by omega) (by decide) ?_
      rw [hsc]
      refine AF.icmp_ge 46 dX2_lengthOf_11 (by decide) (fun hb => ?_) (fun hb => ?_)
      · refine AF.iload_n dX2_lengthOf_46 rfl ?_
        exact AF.ireturn dX2_lengthOf_47 rfl ⟨by rw [show j = (fg Fg i).length by omega]; rfl, rfl⟩
      · exact absurd (by rw [nI_leI (by omega) (by omega)]; omega) hb
    | succ k ih =>
      intro j z hj
      have q1 := (hI i j (by omega)).1
      have q2 := mxN_le (g := fun k => (g3 (fg Fg i) k).1) (b := 20) j (fun m hm => (hI i m (by omega)).1)
      refine AF.iload_n dX2_lengthOf_4 rfl ?_
      refine AF.aload_n dX2_lengthOf_5 rfl ?_
      refine AF.getfield dX2_lengthOf_6 fl_X2_9 (by assumption) rfl ?_
      refine AF.iload_n dX2_lengthOf_9 rfl ?_
      refine AF.iaload (_) dX2_lengthOf_10 (by assumption) rfl (by omega) (by decide) ?_
      rw [hsc]
      refine AF.icmp_ge 46 dX2_lengthOf_11 (by decide) (fun hb => ?_) (fun hb => ?_)
      · rw [nI_leI (by omega) (by omega)] at hb
        omega
      · refine AF.aload_n dX2_lengthOf_14 rfl ?_
        refine AF.getfield dX2_lengthOf_15 fl_X2_15 (by assumption) rfl ?_
        refine AF.iload_n dX2_lengthOf_18 rfl ?_
        refine AF.bipush (nI 8) dX2_lengthOf_19 (by decide) ?_
        refine AF.imul dX2_lengthOf_21 ?_
        refine AF.iload_n dX2_lengthOf_22 rfl ?_
        refine AF.iadd dX2_lengthOf_23 ?_
        refine AF.iaload (i * 8 + j) dX2_lengthOf_24 (by assumption) (by first | rfl | exact nI_1 _ | (simp only [nI_add, pk_mul, nI_1]; exact congrArg nI (by omega)) | simp only [nI_add, pk_mul, nI_1]) (by omega) (by decide) ?_
        rw [(hrow j (by omega)).1]
        refine AF.istore dX2_lengthOf_25 (by decide) ?_
        refine AF.iload dX2_lengthOf_27 rfl ?_
        refine AF.iload_n dX2_lengthOf_29 rfl ?_
        refine AF.icmp_le 38 dX2_lengthOf_30 (by decide) (fun hc => ?_) (fun hc => ?_)
        · rw [nI_leI (by omega) (by omega)] at hc
          refine AF.iload_n dX2_lengthOf_38 rfl ?_
          refine AF.istore_n dX2_lengthOf_39 (by decide) ?_
          refine AF.inc1 dX2_lengthOf_40 rfl (by decide) ?_
          refine AF.goto 4 dX2_lengthOf_43 (by decide) ?_
          have h9 := ih (j + 1) (some (.int (nI (g3 (fg Fg i) j).1))) (by omega)
          simp only [mxN] at h9
          rw [if_neg (by omega)] at h9
          exact h9
        · rw [nI_leI (by omega) (by omega)] at hc
          refine AF.iload dX2_lengthOf_33 rfl ?_
          refine AF.goto 39 dX2_lengthOf_35 (by decide) ?_
          refine AF.istore_n dX2_lengthOf_39 (by decide) ?_
          refine AF.inc1 dX2_lengthOf_40 rfl (by decide) ?_
          refine AF.goto 4 dX2_lengthOf_43 (by decide) ?_
          have h9 := ih (j + 1) (some (.int (nI (g3 (fg Fg i) j).1))) (by omega)
          simp only [mxN] at h9
          rw [if_pos (by omega)] at h9
          exact h9
  refine AF.iconst (0) dX2_lengthOf_0 (by decide) ?_
  refine AF.istore_n dX2_lengthOf_1 (by decide) ?_
  refine AF.iconst (0) dX2_lengthOf_2 (by decide) ?_
  refine AF.istore_n dX2_lengthOf_3 (by decide) ?_
  exact loop (fg Fg i).length 0 none (by omega)
set_option maxRecDepth 100000 in
theorem X2_uses_ok (hF : FA G F a Fg) {n : Nat} (hI : FI Fg n) (hn : n ≤ 10) (i : Nat) (hi : i < Fg.length) (x : Nat) (hx : x < 10) : AC G mX2_uses 1 0 0 [.ref a, .int (nI i), .int (nI x)] F (AV (some (.int (bI (fus (fg Fg i) x)))) F) := by
  obtain ⟨sc, dl, jt, op, ⟨h0, h1, h2, h3, h4⟩, hr⟩ := hF
  have h5 := hr.1
  obtain ⟨h8, hsc, hrow⟩ := hr.2 i hi
  refine AC.of [some (.ref a), some (.int (nI i)), some (.int (nI x)), none] rfl (by decide) (Nat.le_of_ble_eq_true rfl) rfl ?_
  have loop : ∀ k j, j + k = (fg Fg i).length → (∀ m, m < j → decide ((g3 (fg Fg i) m).2.1 = x) = false) → AF G mX2_uses 1 0 0 (AV (some (.int (bI (fus (fg Fg i) x)))) F) F 2 [some (.ref a), some (.int (nI i)), some (.int (nI x)), some (.int (nI j))] [] := by
    intro k
    induction k with
    | zero =>
      intro j hj hb9
      refine AF.iload_n dX2_uses_2 rfl ?_
      refine AF.aload_n dX2_uses_3 rfl ?_
      refine AF.getfield dX2_uses_4 fl_X2_9 (by assumption) rfl ?_
      refine AF.iload_n dX2_uses_7 rfl ?_
      refine AF.iaload (_) dX2_uses_8 (by assumption) rfl (by omega) (by decide) ?_
      rw [hsc]
      refine AF.icmp_ge 34 dX2_uses_9 (by decide) (fun hb => ?_) (fun hb => ?_)
      · refine AF.iconst (0) dX2_uses_34 (by decide) ?_
        exact AF.zreturn dX2_uses_35 rfl rfl ⟨by rw [fus, fnd_none (fun m hm => hb9 m (by omega))]; rfl, rfl⟩
      · exact absurd (by rw [nI_leI (by omega) (by omega)]; omega) hb
    | succ k ih =>
      intro j hj hb9
      have q1 := (hI i j (by omega)).2.1
      refine AF.iload_n dX2_uses_2 rfl ?_
      refine AF.aload_n dX2_uses_3 rfl ?_
      refine AF.getfield dX2_uses_4 fl_X2_9 (by assumption) rfl ?_
      refine AF.iload_n dX2_uses_7 rfl ?_
      refine AF.iaload (_) dX2_uses_8 (by assumption) rfl (by omega) (by decide) ?_
      rw [hsc]
      refine AF.icmp_ge 34 dX2_uses_9 (by decide) (fun hb => ?_) (fun hb => ?_)
      · rw [nI_leI (by omega) (by omega)] at hb
        omega
      · refine AF.aload_n dX2_uses_12 rfl ?_
        refine AF.getfield dX2_uses_13 fl_X2_18 (by assumption) rfl ?_
        refine AF.iload_n dX2_uses_16 rfl ?_
        refine AF.iload_n dX2_uses_17 rfl ?_
        refine AF.sn1 dX2_uses_18 kn_X2_47 ((X8_slot_ok i j)) rfl rfl (Nat.le_of_ble_eq_true rfl) (by decide) rfl ?_
        refine AF.iaload (_) dX2_uses_21 (by assumption) rfl (by omega) (by decide) ?_
        rw [(hrow j (by omega)).2.1]
        refine AF.iload_n dX2_uses_22 rfl ?_
        refine AF.icmp_ne 28 dX2_uses_23 (by decide) (fun hc => ?_) (fun hc => ?_)
        · rw [nI_eq (by omega) (by omega)] at hc
          refine AF.inc1 dX2_uses_28 rfl (by decide) ?_
          refine AF.goto 2 dX2_uses_31 (by decide) ?_
          refine ih (j + 1) (by omega) (fun m hm => ?_)
          by_cases e : m = j
          · rw [e]; exact decide_eq_false hc
          · exact hb9 m (by omega)
        · rw [nI_eq (by omega) (by omega)] at hc
          refine AF.iconst (1) dX2_uses_26 (by decide) ?_
          exact AF.zreturn dX2_uses_27 rfl rfl ⟨by rw [fus, fnd_some (decide_eq_true hc) (by omega) hb9]; rfl, rfl⟩
  refine AF.iconst (0) dX2_uses_0 (by decide) ?_
  refine AF.istore_n dX2_uses_1 (by decide) ?_
  exact loop (fg Fg i).length 0 (by omega) (fun i hi => by omega)
set_option maxRecDepth 100000 in
theorem X2_countUsing_ok (hF : FA G F a Fg) {n : Nat} (hI : FI Fg n) (hn : n ≤ 10) (x : Nat) (hx : x < 10) : AC G mX2_countUsing 2 0 0 [.ref a, .int (nI x)] F (AV (some (.int (nI (cntB (fun i => fus (fg Fg i) x) Fg.length)))) F) := by
  have hU := fun i hi => X2_uses_ok hF hI hn i hi x hx
  obtain ⟨sc, dl, jt, op, ⟨h0, h1, h2, h3, h4⟩, hr⟩ := hF
  have h5 := hr.1
  refine AC.of [some (.ref a), some (.int (nI x)), none, none] rfl (by decide) (Nat.le_of_ble_eq_true rfl) rfl ?_
  have loop : ∀ k j, j + k = Fg.length → AF G mX2_countUsing 2 0 0 (AV (some (.int (nI (cntB (fun i => fus (fg Fg i) x) Fg.length)))) F) F 4 [some (.ref a), some (.int (nI x)), some (.int (nI (cntB (fun i => fus (fg Fg i) x) j))), some (.int (nI j))] [] := by
    intro k
    induction k with
    | zero =>
      intro j hj
      refine AF.iload_n dX2_countUsing_4 rfl ?_
      refine AF.aload_n dX2_countUsing_5 rfl ?_
      refine AF.getfield dX2_countUsing_6 fl_X2_24 (by assumption) rfl ?_
      refine AF.icmp_ge 30 dX2_countUsing_9 (by decide) (fun hb => ?_) (fun hb => ?_)
      · refine AF.iload_n dX2_countUsing_30 rfl ?_
        exact AF.ireturn dX2_countUsing_31 rfl ⟨by rw [show j = Fg.length by omega], rfl⟩
      · exact absurd (by rw [nI_leI (by omega) (by omega)]; omega) hb
    | succ k ih =>
      intro j hj
      refine AF.iload_n dX2_countUsing_4 rfl ?_
      refine AF.aload_n dX2_countUsing_5 rfl ?_
      refine AF.getfield dX2_countUsing_6 fl_X2_24 (by assumption) rfl ?_
      refine AF.icmp_ge 30 dX2_countUsing_9 (by decide) (fun hb => ?_) (fun hb => ?_)
      · rw [nI_leI (by omega) (by omega)] at hb
        omega
      · refine AF.aload_n dX2_countUsing_12 rfl ?_
        refine AF.iload_n dX2_countUsing_13 rfl ?_
        refine AF.iload_n dX2_countUsing_14 rfl ?_
        refine AF.v1 dX2_countUsing_15 kv_X2_55 ((hU j (by omega))) (by assumption) rfl rfl rfl (Nat.le_of_ble_eq_true rfl) (by decide) rfl ?_
        refine AF.if_eq 24 dX2_countUsing_18 (by decide) (fun hc => ?_) (fun hc => ?_)
        · refine AF.inc1 dX2_countUsing_24 rfl (by decide) ?_
          refine AF.goto 4 dX2_countUsing_27 (by decide) ?_
          have h9 := ih (j + 1) (by omega)
          simp only [cntB] at h9
          rw [if_neg (by rw [bI_z hc]; decide), Nat.add_zero] at h9
          exact h9
        · refine AF.inc1 dX2_countUsing_21 rfl (by decide) ?_
          refine AF.inc1 dX2_countUsing_24 rfl (by decide) ?_
          refine AF.goto 4 dX2_countUsing_27 (by decide) ?_
          have h9 := ih (j + 1) (by omega)
          simp only [cntB] at h9
          rw [if_pos (bI_n hc)] at h9
          exact h9
  refine AF.iconst (0) dX2_countUsing_0 (by decide) ?_
  refine AF.istore_n dX2_countUsing_1 (by decide) ?_
  refine AF.iconst (0) dX2_countUsing_2 (by decide) ?_
  refine AF.istore_n dX2_countUsing_3 (by decide) ?_
  exact loop Fg.length 0 (by omega)
set_option maxRecDepth 100000 in
theorem X2_moveStep_ok {n : Nat} {sc dl jt op : Nat → Int32} (hF : FA0 G F a n sc dl jt op) (ha : gN G ≤ a) (s t : Nat) (hs : s < 40) (ht : t < 40) : AC G mX2_moveStep 0 0 0 [.ref a, .int (nI s), .int (nI t)] F (FW0 G a n sc (upd dl t (dl s)) (upd jt t (jt s)) (upd op t (op s)) none F) := by
  obtain ⟨h0, h1, h2, h3, h4⟩ := hF
  refine AC.of [some (.ref a), some (.int (nI s)), some (.int (nI t))] rfl (by decide) (Nat.le_of_ble_eq_true rfl) rfl ?_
  have hfr : Fr a (a + 5) F F := Fr.rf
  refine AF.aload_n dX2_moveStep_0 rfl ?_
  refine AF.getfield dX2_moveStep_1 fl_X2_15 (by assumption) rfl ?_
  refine AF.iload_n dX2_moveStep_4 rfl ?_
  refine AF.aload_n dX2_moveStep_5 rfl ?_
  refine AF.getfield dX2_moveStep_6 fl_X2_15 (by assumption) rfl ?_
  refine AF.iload_n dX2_moveStep_9 rfl ?_
  refine AF.iaload (_) dX2_moveStep_10 (by assumption) rfl (by omega) (by decide) ?_
  refine AF.iastoreF (_) dX2_moveStep_11 h2 (by omega) rfl (by omega) (by decide) ?_
  intro F e9 h9 o9
  replace h0 := (o9 (a) (by omega)).trans h0
  replace h1 := (o9 (a + 1) (by omega)).trans h1
  replace h3 := (o9 (a + 3) (by omega)).trans h3
  replace h4 := (o9 (a + 4) (by omega)).trans h4
  replace h2 := h9
  replace hfr := hfr.step e9 (by omega) (by omega) o9
  clear e9 h9 o9
  refine AF.aload_n dX2_moveStep_12 rfl ?_
  refine AF.getfield dX2_moveStep_13 fl_X2_18 (by assumption) rfl ?_
  refine AF.iload_n dX2_moveStep_16 rfl ?_
  refine AF.aload_n dX2_moveStep_17 rfl ?_
  refine AF.getfield dX2_moveStep_18 fl_X2_18 (by assumption) rfl ?_
  refine AF.iload_n dX2_moveStep_21 rfl ?_
  refine AF.iaload (_) dX2_moveStep_22 (by assumption) rfl (by omega) (by decide) ?_
  refine AF.iastoreF (_) dX2_moveStep_23 h3 (by omega) rfl (by omega) (by decide) ?_
  intro F e9 h9 o9
  replace h0 := (o9 (a) (by omega)).trans h0
  replace h1 := (o9 (a + 1) (by omega)).trans h1
  replace h2 := (o9 (a + 2) (by omega)).trans h2
  replace h4 := (o9 (a + 4) (by omega)).trans h4
  replace h3 := h9
  replace hfr := hfr.step e9 (by omega) (by omega) o9
  clear e9 h9 o9
  refine AF.aload_n dX2_moveStep_24 rfl ?_
  refine AF.getfield dX2_moveStep_25 fl_X2_21 (by assumption) rfl ?_
  refine AF.iload_n dX2_moveStep_28 rfl ?_
  refine AF.aload_n dX2_moveStep_29 rfl ?_
  refine AF.getfield dX2_moveStep_30 fl_X2_21 (by assumption) rfl ?_
  refine AF.iload_n dX2_moveStep_33 rfl ?_
  refine AF.iaload (_) dX2_moveStep_34 (by assumption) rfl (by omega) (by decide) ?_
  refine AF.iastoreF (_) dX2_moveStep_35 h4 (by omega) rfl (by omega) (by decide) ?_
  intro F e9 h9 o9
  replace h0 := (o9 (a) (by omega)).trans h0
  replace h1 := (o9 (a + 1) (by omega)).trans h1
  replace h2 := (o9 (a + 2) (by omega)).trans h2
  replace h3 := (o9 (a + 3) (by omega)).trans h3
  replace h4 := h9
  replace hfr := hfr.step e9 (by omega) (by omega) o9
  clear e9 h9 o9
  exact AF.vreturn dX2_moveStep_36 rfl ⟨rfl, ⟨h0, h1, h2, h3, h4⟩, hfr⟩
set_option maxRecDepth 100000 in
theorem X2_append_ok (hF : FA G F a Fg) (ha : gN G ≤ a) (hl : Fg.length < 5) : AC G mX2_append 0 0 0 [.ref a] F (FW G a (Fg ++ [[]]) (some (.int (nI Fg.length))) F) := by
  obtain ⟨sc, dl, jt, op, ⟨h0, h1, h2, h3, h4⟩, hr⟩ := hF
  refine AC.of [some (.ref a)] rfl (by decide) (Nat.le_of_ble_eq_true rfl) rfl ?_
  have hfr : Fr a (a + 5) F F := Fr.rf
  have e5 : (Fg ++ [[]]).length = Fg.length + 1 := by simp
  refine AF.aload_n dX2_append_0 rfl ?_
  refine AF.getfield dX2_append_1 fl_X2_9 (by assumption) rfl ?_
  refine AF.aload_n dX2_append_4 rfl ?_
  refine AF.getfield dX2_append_5 fl_X2_24 (by assumption) rfl ?_
  refine AF.iconst (0) dX2_append_8 (by decide) ?_
  refine AF.iastoreF (_) dX2_append_9 h1 (by omega) rfl (by omega) (by decide) ?_
  intro F e9 h9 o9
  replace h0 := (o9 (a) (by omega)).trans h0
  replace h2 := (o9 (a + 2) (by omega)).trans h2
  replace h3 := (o9 (a + 3) (by omega)).trans h3
  replace h4 := (o9 (a + 4) (by omega)).trans h4
  replace h1 := h9
  replace hfr := hfr.step e9 (by omega) (by omega) o9
  clear e9 h9 o9
  refine AF.aload_n dX2_append_10 rfl ?_
  refine AF.dup dX2_append_11 rfl ?_
  refine AF.getfield dX2_append_12 fl_X2_24 (by assumption) rfl ?_
  refine AF.iconst (1) dX2_append_15 (by decide) ?_
  refine AF.iadd dX2_append_16 ?_
  rw [show nI Fg.length + 1 = nI (Fg ++ [[]]).length by rw [nI_1, e5]]
  refine AF.putfieldF dX2_append_17 fp_X2_24 h0 (by omega) (Nat.le_of_ble_eq_true rfl) rfl rfl (Or.inr fq_0_4) ?_
  intro F e9 h9 o9
  replace h1 := (o9 (a + 1) (by omega)).trans h1
  replace h2 := (o9 (a + 2) (by omega)).trans h2
  replace h3 := (o9 (a + 3) (by omega)).trans h3
  replace h4 := (o9 (a + 4) (by omega)).trans h4
  replace h0 := h9
  replace hfr := hfr.step e9 (by omega) (by omega) o9
  clear e9 h9 o9
  refine AF.aload_n dX2_append_20 rfl ?_
  refine AF.getfield dX2_append_21 fl_X2_24 (by assumption) rfl ?_
  refine AF.iconst (1) dX2_append_24 (by decide) ?_
  refine AF.isub dX2_append_25 ?_
  refine AF.ireturn dX2_append_26 rfl ⟨by rw [e5, nI_pred], ⟨_, dl, jt, op, ⟨h0, h1, h2, h3, h4⟩, by omega, fun i hi => ?_⟩, hfr⟩
  rw [e5] at hi
  rw [fg, gd_app]
  by_cases e : i = Fg.length
  · rw [if_pos e, e, upd_s]
    exact ⟨Nat.zero_le _, nI_0.symm, fun k hk => absurd hk (Nat.not_lt_zero _)⟩
  · rw [if_neg e, upd_n e]
    exact hr.2 i (by omega)
end

