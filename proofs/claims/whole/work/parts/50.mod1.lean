/-! The reference: its picture, what its row s means; the methods that read. -/
abbrev mvs (m : Nat) (g : Nat → Int32) : List Value := [.int (g 0), .ref (m + 1), .ref (m + 2), .ref (m + 3), .ref (m + 4), .ref (m + 5), .int (g 6), .int (g 7), .ref (m + 6), .ref (m + 7), .ref (m + 8), .int (g 11), .int (g 12), .int (g 13), .int (g 14), .int (g 15), .int (g 16), .int (g 17), .int (g 18), .int (g 19)]
/-- the rows but s: 1 frame, 2 saved, 3 history, 4 thought, 5 text, 6 told, 7 out -/
def MR (G : GA) (F : AH) (m : Nat) (A : Nat → Nat → Int32) : Prop := F.2 (m + 2) = some (.inl (gC G 0, 165, .inl (A 1))) ∧ F.2 (m + 3) = some (.inl (gC G 0, 165, .inl (A 2))) ∧ F.2 (m + 4) = some (.inl (gC G 0, 1320, .inl (A 3))) ∧ F.2 (m + 5) = some (.inl (gC G 0, 165, .inl (A 4))) ∧ F.2 (m + 6) = some (.inl (gC G 0, 60, .inl (A 5))) ∧ F.2 (m + 7) = some (.inl (gC G 0, 300, .inl (A 6))) ∧ F.2 (m + 8) = some (.inl (gC G 0, 90, .inl (A 7)))
def MA (G : GA) (F : AH) (m : Nat) (g f : Nat → Int32) (A : Nat → Nat → Int32) : Prop := F.2 m = some (.inr (6, mvs m g)) ∧ F.2 (m + 1) = some (.inl (gC G 0, 165, .inl f)) ∧ MR G F m A
theorem MR.kept {G : GA} {F F' : AH} {m : Nat} {A : Nat → Nat → Int32} (h : MR G F m A) (e : ∀ q, m + 2 ≤ q → q < m + 9 → F'.2 q = F.2 q) : MR G F' m A := by
  obtain ⟨h2, h3, h4, h5, h6, h7, h8⟩ := h
  exact ⟨(e (m + 2) (by omega) (by omega)).trans h2, (e (m + 3) (by omega) (by omega)).trans h3, (e (m + 4) (by omega) (by omega)).trans h4, (e (m + 5) (by omega) (by omega)).trans h5, (e (m + 6) (by omega) (by omega)).trans h6, (e (m + 7) (by omega) (by omega)).trans h7, (e (m + 8) (by omega) (by omega)).trans h8⟩
theorem MR.fr {G : GA} {F F' : AH} {m lo hi : Nat} {A : Nat → Nat → Int32} (h : MR G F m A) (q : Fr lo hi F F') (d : m + 9 ≤ lo ∨ hi ≤ m + 2) : MR G F' m A := h.kept (fun x h1 h2 => q.2 x (by omega))
theorem MA.kept {G : GA} {F F' : AH} {m : Nat} {g f : Nat → Int32} {A : Nat → Nat → Int32} (h : MA G F m g f A) (e : ∀ q, m ≤ q → q < m + 9 → F'.2 q = F.2 q) : MA G F' m g f A :=
  ⟨(e m (by omega) (by omega)).trans h.1, (e (m + 1) (by omega) (by omega)).trans h.2.1, h.2.2.kept (fun q h1 h2 => e q (by omega) (by omega))⟩
theorem MA.fr {G : GA} {F F' : AH} {m lo hi : Nat} {g f : Nat → Int32} {A : Nat → Nat → Int32} (h : MA G F m g f A) (q : Fr lo hi F F') (d : m + 9 ≤ lo ∨ hi ≤ m) : MA G F' m g f A := h.kept (fun x h1 h2 => q.2 x (by omega))
def SJ (J : List Jt) (f : Nat → Int32) : Prop := J.length ≤ 10 ∧ ∀ j, j < J.length → f (8 + 2 * j) = nI (jp J j) ∧ f (8 + 2 * j + 1) = nI (jo J j)
def SG (Fg : List (List Sp)) (f : Nat → Int32) : Prop := Fg.length ≤ 5 ∧ ∀ i, i < Fg.length → (fg Fg i).length ≤ 8 ∧ f (28 + 25 * i) = nI (fg Fg i).length ∧ ∀ k, k < (fg Fg i).length → f (28 + 25 * i + 1 + 3 * k) = nI (g3 (fg Fg i) k).1 ∧ f (28 + 25 * i + 1 + 3 * k + 1) = nI (g3 (fg Fg i) k).2.1 ∧ f (28 + 25 * i + 1 + 3 * k + 2) = nI (g3 (fg Fg i) k).2.2
def SE (E : List En) (f : Nat → Int32) : Prop := E.length ≤ 6 ∧ ∀ e, e < E.length → f (153 + 2 * e) = nI (en E e).1 ∧ f (153 + 2 * e + 1) = nI (en E e).2
def SH (σ : Sg) (f : Nat → Int32) : Prop := f 0 = nI σ.J.length ∧ f 1 = nI σ.Fg.length ∧ f 2 = nI σ.E.length ∧ f 3 = nI σ.cap ∧ f 4 = σ.w ∧ f 5 = nI σ.bt ∧ f 6 = nI σ.pum ∧ f 7 = nI σ.sht
/-- the row s holds the stage σ -/
def SR (σ : Sg) (f : Nat → Int32) : Prop := SH σ f ∧ SJ σ.J f ∧ SG σ.Fg f ∧ SE σ.E f
theorem SJ.kept {J : List Jt} {f f' : Nat → Int32} (h : SJ J f) (e : ∀ q, 8 ≤ q → q < 28 → f' q = f q) : SJ J f' := ⟨h.1, fun j hj => by
  have := h.1
  rw [e _ (by omega) (by omega), e _ (by omega) (by omega)]; exact h.2 j hj⟩
theorem SG.kept {Fg : List (List Sp)} {f f' : Nat → Int32} (h : SG Fg f) (e : ∀ q, 28 ≤ q → q < 153 → f' q = f q) : SG Fg f' := ⟨h.1, fun i hi => by
  have := h.1
  obtain ⟨q1, q2, q3⟩ := h.2 i hi
  refine ⟨q1, by rw [e _ (by omega) (by omega)]; exact q2, fun k hk => ?_⟩
  rw [e _ (by omega) (by omega), e _ (by omega) (by omega), e _ (by omega) (by omega)]; exact q3 k hk⟩
theorem SE.kept {E : List En} {f f' : Nat → Int32} (h : SE E f) (e : ∀ q, 153 ≤ q → q < 165 → f' q = f q) : SE E f' := ⟨h.1, fun k hk => by
  have := h.1
  rw [e _ (by omega) (by omega), e _ (by omega) (by omega)]; exact h.2 k hk⟩
theorem SR.kept {σ : Sg} {f f' : Nat → Int32} (h : SR σ f) (e : ∀ q, q < 165 → f' q = f q) : SR σ f' := by
  obtain ⟨⟨a0, a1, a2, a3, a4, a5, a6, a7⟩, hJ, hG, hE⟩ := h
  refine ⟨⟨?_, ?_, ?_, ?_, ?_, ?_, ?_, ?_⟩, hJ.kept (fun q _ h2 => e q (by omega)), hG.kept (fun q _ h2 => e q (by omega)), hE.kept (fun q _ h2 => e q (by omega))⟩ <;> rw [e _ (by omega)] <;> assumption
/-- an answer, the row s new -/
def MS (G : GA) (m : Nat) (σ : Sg) (g : Nat → Int32) (A : Nat → Nat → Int32) (v : Option Value) (F0 : AH) : AR → AH → Prop := fun r F' => r = .inl v ∧ ∃ f', SR σ f' ∧ MA G F' m g f' A ∧ Fr m (m + 9) F0 F'
/-- an answer, numbers of the object's own new -/
def MW (G : GA) (m : Nat) (g f : Nat → Int32) (A : Nat → Nat → Int32) (v : Option Value) (F0 : AH) : AR → AH → Prop := fun r F' => r = .inl v ∧ MA G F' m g f A ∧ Fr m (m + 9) F0 F'
theorem bI_nar (b : Bool) : narrow .boolean (.int (bI b)) = .int (bI b) := by cases b <;> rfl
def inB (x lo hi : Int32) : Bool := decide (lo ≤ x) && decide (x ≤ hi)
theorem inB_has {n : Nat} {x : Int32} (hn : n < 2 ^ 30) : inB x 0 (nI n - 1) = hasB n x := by
  unfold inB hasB
  congr 1
  have e1 : (nI n - nI 1).toInt = (n : Int) - 1 := pk_sub_toInt hn (by omega)
  rw [decide_eq_decide, Int32.le_iff_toInt_le, Int32.lt_iff_toInt_lt, show (1 : Int32) = nI 1 from rfl, e1, nI_toInt (by omega)]
  omega
theorem inB_wil {x : Int32} : inB x 0 99 = !wil x := by
  unfold inB wil
  by_cases h1 : x < 0
  · rw [decide_eq_true h1, decide_eq_false (Int32.not_le.mpr h1)]; rfl
  · by_cases h2 : 99 < x
    · rw [decide_eq_true h2, decide_eq_false (Int32.not_le.mpr h2), Bool.or_true, Bool.and_false]; rfl
    · rw [decide_eq_false h1, decide_eq_false h2, decide_eq_true (Int32.not_lt.mp h1), decide_eq_true (Int32.not_lt.mp h2)]; rfl
section
variable {G : GA} {F : AH} {m : Nat} {g f : Nat → Int32} {A : Nat → Nat → Int32} {σ : Sg} {B : Nat}
set_option maxRecDepth 100000 in
theorem X9_in_ok (x y z : Int32) : AC G mX9_in 0 0 0 [.int x, .int y, .int z] F (AV (some (.int (bI (inB x y z)))) F) := by
  refine AC.of [some (.int x), some (.int y), some (.int z)] rfl (by decide) (Nat.le_of_ble_eq_true rfl) rfl ?_
  unfold inB
  refine AF.iload_n dX9_in_0 rfl ?_
  refine AF.iload_n dX9_in_1 rfl ?_
  refine AF.icmp_lt 14 dX9_in_2 (by decide) (fun c1 => ?_) (fun c1 => ?_)
  · refine AF.iconst (0) dX9_in_14 (by decide) ?_
    exact AF.zreturn dX9_in_15 rfl rfl ⟨by rw [decide_eq_false (Int32.not_le.mpr c1)]; rfl, rfl⟩
  · refine AF.iload_n dX9_in_5 rfl ?_
    refine AF.iload_n dX9_in_6 rfl ?_
    refine AF.icmp_gt 14 dX9_in_7 (by decide) (fun c2 => ?_) (fun c2 => ?_)
    · refine AF.iconst (0) dX9_in_14 (by decide) ?_
      exact AF.zreturn dX9_in_15 rfl rfl ⟨by rw [decide_eq_false (Int32.not_le.mpr c2), Bool.and_false]; rfl, rfl⟩
    · refine AF.iconst (1) dX9_in_10 (by decide) ?_
      refine AF.goto 15 dX9_in_11 (by decide) ?_
      exact AF.zreturn dX9_in_15 rfl rfl ⟨by rw [decide_eq_true (Int32.not_lt.mp c1), decide_eq_true (Int32.not_lt.mp c2)]; rfl, rfl⟩
set_option maxRecDepth 100000 in
theorem X9_isJet_ok (hM : MA G F m g f A) (hS : SR σ f) (x : Int32) : AC G mX9_isJet 1 0 0 [.ref m, .int x] F (AV (some (.int (bI (hasB σ.J.length x)))) F) := by
  obtain ⟨h0, h1, hR⟩ := hM
  have hn := hS.2.1.1
  refine AC.of [some (.ref m), some (.int x)] rfl (by decide) (Nat.le_of_ble_eq_true rfl) rfl ?_
  refine AF.iload_n dX9_isJet_0 rfl ?_
  refine AF.iconst (0) dX9_isJet_1 (by decide) ?_
  refine AF.aload_n dX9_isJet_2 rfl ?_
  refine AF.getfield dX9_isJet_3 fl_X9_7 (by assumption) rfl ?_
  refine AF.iconst (0) dX9_isJet_6 (by decide) ?_
  refine AF.iaload (0) dX9_isJet_7 (by assumption) (by first | rfl | exact nI_1 _ | (simp only [nI_add, pk_mul, nI_1]; exact congrArg nI (by omega)) | simp only [nI_add, pk_mul, nI_1]) (by omega) (by decide) ?_
  rw [hS.1.1]
  refine AF.iconst (1) dX9_isJet_8 (by decide) ?_
  refine AF.isub dX9_isJet_9 ?_
  refine AF.s1 dX9_isJet_10 kv_X9_57 ((X9_in_ok x 0 (nI σ.J.length - 1))) rfl rfl (Nat.le_of_ble_eq_true rfl) (by decide) rfl ?_
  exact AF.zreturn dX9_isJet_13 rfl (bI_nar _) ⟨by rw [inB_has (by omega)], rfl⟩
set_option maxRecDepth 100000 in
theorem X9_isFigure_ok (hM : MA G F m g f A) (hS : SR σ f) (x : Int32) : AC G mX9_isFigure 1 0 0 [.ref m, .int x] F (AV (some (.int (bI (hasB σ.Fg.length x)))) F) := by
  obtain ⟨h0, h1, hR⟩ := hM
  have hn := hS.2.2.1.1
  refine AC.of [some (.ref m), some (.int x)] rfl (by decide) (Nat.le_of_ble_eq_true rfl) rfl ?_
  refine AF.iload_n dX9_isFigure_0 rfl ?_
  refine AF.iconst (0) dX9_isFigure_1 (by decide) ?_
  refine AF.aload_n dX9_isFigure_2 rfl ?_
  refine AF.getfield dX9_isFigure_3 fl_X9_7 (by assumption) rfl ?_
  refine AF.iconst (1) dX9_isFigure_6 (by decide) ?_
  refine AF.iaload (1) dX9_isFigure_7 (by assumption) (by first | rfl | exact nI_1 _ | (simp only [nI_add, pk_mul, nI_1]; exact congrArg nI (by omega)) | simp only [nI_add, pk_mul, nI_1]) (by omega) (by decide) ?_
  rw [hS.1.2.1]
  refine AF.iconst (1) dX9_isFigure_8 (by decide) ?_
  refine AF.isub dX9_isFigure_9 ?_
  refine AF.s1 dX9_isFigure_10 kv_X9_57 ((X9_in_ok x 0 (nI σ.Fg.length - 1))) rfl rfl (Nat.le_of_ble_eq_true rfl) (by decide) rfl ?_
  exact AF.zreturn dX9_isFigure_13 rfl (bI_nar _) ⟨by rw [inB_has (by omega)], rfl⟩
set_option maxRecDepth 100000 in
theorem X9_isEntry_ok (hM : MA G F m g f A) (hS : SR σ f) (x : Int32) : AC G mX9_isEntry 1 0 0 [.ref m, .int x] F (AV (some (.int (bI (hasB σ.E.length x)))) F) := by
  obtain ⟨h0, h1, hR⟩ := hM
  have hn := hS.2.2.2.1
  refine AC.of [some (.ref m), some (.int x)] rfl (by decide) (Nat.le_of_ble_eq_true rfl) rfl ?_
  refine AF.iload_n dX9_isEntry_0 rfl ?_
  refine AF.iconst (0) dX9_isEntry_1 (by decide) ?_
  refine AF.aload_n dX9_isEntry_2 rfl ?_
  refine AF.getfield dX9_isEntry_3 fl_X9_7 (by assumption) rfl ?_
  refine AF.iconst (2) dX9_isEntry_6 (by decide) ?_
  refine AF.iaload (2) dX9_isEntry_7 (by assumption) (by first | rfl | exact nI_1 _ | (simp only [nI_add, pk_mul, nI_1]; exact congrArg nI (by omega)) | simp only [nI_add, pk_mul, nI_1]) (by omega) (by decide) ?_
  rw [hS.1.2.2.1]
  refine AF.iconst (1) dX9_isEntry_8 (by decide) ?_
  refine AF.isub dX9_isEntry_9 ?_
  refine AF.s1 dX9_isEntry_10 kv_X9_57 ((X9_in_ok x 0 (nI σ.E.length - 1))) rfl rfl (Nat.le_of_ble_eq_true rfl) (by decide) rfl ?_
  exact AF.zreturn dX9_isEntry_13 rfl (bI_nar _) ⟨by rw [inB_has (by omega)], rfl⟩
set_option maxRecDepth 100000 in
theorem X9_place_ok (hM : MA G F m g f A) (j : Nat) (hj : j < 10) : AC G mX9_place 0 0 0 [.ref m, .int (nI j)] F (AV (some (.int (f (8 + 2 * j)))) F) := by
  obtain ⟨h0, h1, hR⟩ := hM
  refine AC.of [some (.ref m), some (.int (nI j))] rfl (by decide) (Nat.le_of_ble_eq_true rfl) rfl ?_
  refine AF.aload_n dX9_place_0 rfl ?_
  refine AF.getfield dX9_place_1 fl_X9_7 (by assumption) rfl ?_
  refine AF.bipush (nI 8) dX9_place_4 (by decide) ?_
  refine AF.iconst (nI 2) dX9_place_6 (by decide) ?_
  refine AF.iload_n dX9_place_7 rfl ?_
  refine AF.imul dX9_place_8 ?_
  refine AF.iadd dX9_place_9 ?_
  refine AF.iaload (8 + 2 * j) dX9_place_10 (by assumption) (by first | rfl | exact nI_1 _ | (simp only [nI_add, pk_mul, nI_1]; exact congrArg nI (by omega)) | simp only [nI_add, pk_mul, nI_1]) (by omega) (by decide) ?_
  exact AF.ireturn dX9_place_11 rfl ⟨rfl, rfl⟩
set_option maxRecDepth 100000 in
theorem X9_valve_ok (hM : MA G F m g f A) (j : Nat) (hj : j < 10) : AC G mX9_valve 0 0 0 [.ref m, .int (nI j)] F (AV (some (.int (f (8 + 2 * j + 1)))) F) := by
  obtain ⟨h0, h1, hR⟩ := hM
  refine AC.of [some (.ref m), some (.int (nI j))] rfl (by decide) (Nat.le_of_ble_eq_true rfl) rfl ?_
  refine AF.aload_n dX9_valve_0 rfl ?_
  refine AF.getfield dX9_valve_1 fl_X9_7 (by assumption) rfl ?_
  refine AF.bipush (nI 8) dX9_valve_4 (by decide) ?_
  refine AF.iconst (nI 2) dX9_valve_6 (by decide) ?_
  refine AF.iload_n dX9_valve_7 rfl ?_
  refine AF.imul dX9_valve_8 ?_
  refine AF.iadd dX9_valve_9 ?_
  refine AF.iconst (nI 1) dX9_valve_10 (by decide) ?_
  refine AF.iadd dX9_valve_11 ?_
  refine AF.iaload (8 + 2 * j + 1) dX9_valve_12 (by assumption) (by first | rfl | exact nI_1 _ | (simp only [nI_add, pk_mul, nI_1]; exact congrArg nI (by omega)) | simp only [nI_add, pk_mul, nI_1]) (by omega) (by decide) ?_
  exact AF.ireturn dX9_valve_13 rfl ⟨rfl, rfl⟩
set_option maxRecDepth 100000 in
theorem X9_steps_ok (hM : MA G F m g f A) (i : Nat) (hi : i < 5) : AC G mX9_steps 0 0 0 [.ref m, .int (nI i)] F (AV (some (.int (f (28 + 25 * i)))) F) := by
  obtain ⟨h0, h1, hR⟩ := hM
  refine AC.of [some (.ref m), some (.int (nI i))] rfl (by decide) (Nat.le_of_ble_eq_true rfl) rfl ?_
  refine AF.aload_n dX9_steps_0 rfl ?_
  refine AF.getfield dX9_steps_1 fl_X9_7 (by assumption) rfl ?_
  refine AF.bipush (nI 28) dX9_steps_4 (by decide) ?_
  refine AF.bipush (nI 25) dX9_steps_6 (by decide) ?_
  refine AF.iload_n dX9_steps_8 rfl ?_
  refine AF.imul dX9_steps_9 ?_
  refine AF.iadd dX9_steps_10 ?_
  refine AF.iaload (28 + 25 * i) dX9_steps_11 (by assumption) (by first | rfl | exact nI_1 _ | (simp only [nI_add, pk_mul, nI_1]; exact congrArg nI (by omega)) | simp only [nI_add, pk_mul, nI_1]) (by omega) (by decide) ?_
  exact AF.ireturn dX9_steps_12 rfl ⟨rfl, rfl⟩
set_option maxRecDepth 100000 in
theorem X9_at_ok (hM : MA G F m g f A) (i k c : Nat) (hi : i < 5) (hk : k < 8) (hc : c < 3) : AC G mX9_at 0 0 0 [.ref m, .int (nI i), .int (nI k), .int (nI c)] F (AV (some (.int (f (28 + 25 * i + 1 + 3 * k + c)))) F) := by
  obtain ⟨h0, h1, hR⟩ := hM
  refine AC.of [some (.ref m), some (.int (nI i)), some (.int (nI k)), some (.int (nI c))] rfl (by decide) (Nat.le_of_ble_eq_true rfl) rfl ?_
  refine AF.aload_n dX9_at_0 rfl ?_
  refine AF.getfield dX9_at_1 fl_X9_7 (by assumption) rfl ?_
  refine AF.bipush (nI 28) dX9_at_4 (by decide) ?_
  refine AF.bipush (nI 25) dX9_at_6 (by decide) ?_
  refine AF.iload_n dX9_at_8 rfl ?_
  refine AF.imul dX9_at_9 ?_
  refine AF.iadd dX9_at_10 ?_
  refine AF.iconst (nI 1) dX9_at_11 (by decide) ?_
  refine AF.iadd dX9_at_12 ?_
  refine AF.iconst (nI 3) dX9_at_13 (by decide) ?_
  refine AF.iload_n dX9_at_14 rfl ?_
  refine AF.imul dX9_at_15 ?_
  refine AF.iadd dX9_at_16 ?_
  refine AF.iload_n dX9_at_17 rfl ?_
  refine AF.iadd dX9_at_18 ?_
  refine AF.iaload (28 + 25 * i + 1 + 3 * k + c) dX9_at_19 (by assumption) (by first | rfl | exact nI_1 _ | (simp only [nI_add, pk_mul, nI_1]; exact congrArg nI (by omega)) | simp only [nI_add, pk_mul, nI_1]) (by omega) (by decide) ?_
  exact AF.ireturn dX9_at_20 rfl ⟨rfl, rfl⟩
set_option maxRecDepth 100000 in
theorem X9_asked_ok (hM : MA G F m g f A) (hS : SR σ f) : AC G mX9_asked 1 0 0 [.ref m] F (AV (some (.int (nI (dem σ.J)))) F) := by
  have hV := fun j hj => X9_valve_ok hM j hj
  obtain ⟨h0, h1, hR⟩ := hM
  have hn := hS.2.1.1
  refine AC.of [some (.ref m), none, none] rfl (by decide) (Nat.le_of_ble_eq_true rfl) rfl ?_
  have loop : ∀ k j, j + k = σ.J.length → AF G mX9_asked 1 0 0 (AV (some (.int (nI (dem σ.J)))) F) F 4 [some (.ref m), some (.int (nI (sumN (jo σ.J) j))), some (.int (nI j))] [] := by
    intro k
    induction k with
    | zero =>
      intro j hj
      refine AF.iload_n dX9_asked_4 rfl ?_
      refine AF.aload_n dX9_asked_5 rfl ?_
      refine AF.getfield dX9_asked_6 fl_X9_7 (by assumption) rfl ?_
      refine AF.iconst (0) dX9_asked_9 (by decide) ?_
      refine AF.iaload (0) dX9_asked_10 (by assumption) (by first | rfl | exact nI_1 _ | (simp only [nI_add, pk_mul, nI_1]; exact congrArg nI (by omega)) | simp only [nI_add, pk_mul, nI_1]) (by omega) (by decide) ?_
      rw [hS.1.1]
      refine AF.icmp_ge 28 dX9_asked_11 (by decide) (fun hb => ?_) (fun hb => ?_)
      · refine AF.iload_n dX9_asked_28 rfl ?_
        exact AF.ireturn dX9_asked_29 rfl ⟨by rw [show j = σ.J.length by omega]; rfl, rfl⟩
      · exact absurd (by rw [nI_leI (by omega) (by omega)]; omega) hb
    | succ k ih =>
      intro j hj
      refine AF.iload_n dX9_asked_4 rfl ?_
      refine AF.aload_n dX9_asked_5 rfl ?_
      refine AF.getfield dX9_asked_6 fl_X9_7 (by assumption) rfl ?_
      refine AF.iconst (0) dX9_asked_9 (by decide) ?_
      refine AF.iaload (0) dX9_asked_10 (by assumption) (by first | rfl | exact nI_1 _ | (simp only [nI_add, pk_mul, nI_1]; exact congrArg nI (by omega)) | simp only [nI_add, pk_mul, nI_1]) (by omega) (by decide) ?_
      rw [hS.1.1]
      refine AF.icmp_ge 28 dX9_asked_11 (by decide) (fun hb => ?_) (fun hb => ?_)
      · rw [nI_leI (by omega) (by omega)] at hb
        omega
      · refine AF.iload_n dX9_asked_14 rfl ?_
        refine AF.aload_n dX9_asked_15 rfl ?_
        refine AF.iload_n dX9_asked_16 rfl ?_
        refine AF.v1 dX9_asked_17 kv_X9_61 ((hV j (by omega))) (by assumption) rfl rfl rfl (Nat.le_of_ble_eq_true rfl) (by decide) rfl ?_
        rw [(hS.2.1.2 j (by omega)).2]
        refine AF.iadd dX9_asked_20 ?_
        rw [nI_add]
        refine AF.istore_n dX9_asked_21 (by decide) ?_
        refine AF.inc1 dX9_asked_22 rfl (by decide) ?_
        refine AF.goto 4 dX9_asked_25 (by decide) ?_
        exact ih (j + 1) (by omega)
  refine AF.iconst (0) dX9_asked_0 (by decide) ?_
  refine AF.istore_n dX9_asked_1 (by decide) ?_
  refine AF.iconst (0) dX9_asked_2 (by decide) ?_
  refine AF.istore_n dX9_asked_3 (by decide) ?_
  exact loop σ.J.length 0 (by omega)
set_option maxRecDepth 100000 in
theorem X9_given_ok (hM : MA G F m g f A) (hS : SR σ f) (hI : SI σ B) : AC G mX9_given 2 0 0 [.ref m] F (AV (some (.int (nI (sup σ.J σ.cap)))) F) := by
  have hV := X9_asked_ok hM hS
  obtain ⟨h0, h1, hR⟩ := hM
  have hd := dem_le hI.1 hS.2.1.1
  have hc := hI.2.1
  refine AC.of [some (.ref m)] rfl (by decide) (Nat.le_of_ble_eq_true rfl) rfl ?_
  unfold sup
  refine AF.aload_n dX9_given_0 rfl ?_
  refine AF.v1 dX9_given_1 kv_X9_64 (hV) (by assumption) rfl rfl rfl (Nat.le_of_ble_eq_true rfl) (by decide) rfl ?_
  refine AF.aload_n dX9_given_4 rfl ?_
  refine AF.getfield dX9_given_5 fl_X9_7 (by assumption) rfl ?_
  refine AF.iconst (3) dX9_given_8 (by decide) ?_
  refine AF.iaload (3) dX9_given_9 (by assumption) (by first | rfl | exact nI_1 _ | (simp only [nI_add, pk_mul, nI_1]; exact congrArg nI (by omega)) | simp only [nI_add, pk_mul, nI_1]) (by omega) (by decide) ?_
  rw [hS.1.2.2.2.1]
  refine AF.icmp_ge 20 dX9_given_10 (by decide) (fun hb => ?_) (fun hb => ?_)
  · rw [nI_leI (by omega) (by omega)] at hb
    refine AF.aload_n dX9_given_20 rfl ?_
    refine AF.getfield dX9_given_21 fl_X9_7 (by assumption) rfl ?_
    refine AF.iconst (3) dX9_given_24 (by decide) ?_
    refine AF.iaload (3) dX9_given_25 (by assumption) (by first | rfl | exact nI_1 _ | (simp only [nI_add, pk_mul, nI_1]; exact congrArg nI (by omega)) | simp only [nI_add, pk_mul, nI_1]) (by omega) (by decide) ?_
    rw [hS.1.2.2.2.1]
    refine AF.ireturn dX9_given_26 rfl ⟨?_, rfl⟩
    by_cases q : σ.cap < dem σ.J
    · rw [if_pos q]
    · rw [if_neg q, show σ.cap = dem σ.J by omega]
  · rw [nI_leI (by omega) (by omega)] at hb
    refine AF.aload_n dX9_given_13 rfl ?_
    refine AF.v1 dX9_given_14 kv_X9_64 (hV) (by assumption) rfl rfl rfl (Nat.le_of_ble_eq_true rfl) (by decide) rfl ?_
    refine AF.goto 26 dX9_given_17 (by decide) ?_
    exact AF.ireturn dX9_given_26 rfl ⟨by rw [if_neg (by omega)], rfl⟩
set_option maxRecDepth 100000 in
theorem X9_high_ok (hM : MA G F m g f A) (hS : SR σ f) (hI : SI σ B) (j : Nat) (hj : j < σ.J.length) : AC G mX9_high 2 0 0 [.ref m, .int (nI j)] F (AV (some (.int (nI (hgt σ.cap (dem σ.J) (jo σ.J j))))) F) := by
  have hA := X9_asked_ok hM hS
  have hn := hS.2.1.1
  have hV := X9_valve_ok hM j (by omega)
  rw [(hS.2.1.2 j hj).2] at hV
  obtain ⟨h0, h1, hR⟩ := hM
  have hd := dem_le hI.1 hS.2.1.1
  have hc := hI.2.1
  have ho := (hI.1 j).2
  refine AC.of [some (.ref m), some (.int (nI j))] rfl (by decide) (Nat.le_of_ble_eq_true rfl) rfl ?_
  unfold hgt
  refine AF.aload_n dX9_high_0 rfl ?_
  refine AF.v1 dX9_high_1 kv_X9_64 (hA) (by assumption) rfl rfl rfl (Nat.le_of_ble_eq_true rfl) (by decide) rfl ?_
  refine AF.aload_n dX9_high_4 rfl ?_
  refine AF.getfield dX9_high_5 fl_X9_7 (by assumption) rfl ?_
  refine AF.iconst (3) dX9_high_8 (by decide) ?_
  refine AF.iaload (3) dX9_high_9 (by assumption) (by first | rfl | exact nI_1 _ | (simp only [nI_add, pk_mul, nI_1]; exact congrArg nI (by omega)) | simp only [nI_add, pk_mul, nI_1]) (by omega) (by decide) ?_
  rw [hS.1.2.2.2.1]
  refine AF.icmp_gt 24 dX9_high_10 (by decide) (fun hb => ?_) (fun hb => ?_)
  · rw [nI_ltI (by omega) (by omega)] at hb
    refine AF.bipush (nI 10) dX9_high_24 (by decide) ?_
    refine AF.aload_n dX9_high_26 rfl ?_
    refine AF.iload_n dX9_high_27 rfl ?_
    refine AF.v1 dX9_high_28 kv_X9_61 (hV) (by assumption) rfl rfl rfl (Nat.le_of_ble_eq_true rfl) (by decide) rfl ?_
    refine AF.imul dX9_high_31 ?_
    rw [pk_mul]
    refine AF.aload_n dX9_high_32 rfl ?_
    refine AF.getfield dX9_high_33 fl_X9_7 (by assumption) rfl ?_
    refine AF.iconst (3) dX9_high_36 (by decide) ?_
    refine AF.iaload (3) dX9_high_37 (by assumption) (by first | rfl | exact nI_1 _ | (simp only [nI_add, pk_mul, nI_1]; exact congrArg nI (by omega)) | simp only [nI_add, pk_mul, nI_1]) (by omega) (by decide) ?_
    rw [hS.1.2.2.2.1]
    refine AF.imul dX9_high_38 ?_
    rw [pk_mul]
    refine AF.aload_n dX9_high_39 rfl ?_
    refine AF.v1 dX9_high_40 kv_X9_64 (hA) (by assumption) rfl rfl rfl (Nat.le_of_ble_eq_true rfl) (by decide) rfl ?_
    have hb2 : 10 * jo σ.J j * σ.cap ≤ 100 * 100 := Nat.mul_le_mul (by omega) hc
    refine AF.idiv dX9_high_43 (nI_ne0 (by omega) (by omega)) ?_
    rw [pk_div (by omega) (by omega) (by omega)]
    exact AF.ireturn dX9_high_44 rfl ⟨by rw [if_pos hb], rfl⟩
  · rw [nI_ltI (by omega) (by omega)] at hb
    refine AF.bipush (nI 10) dX9_high_13 (by decide) ?_
    refine AF.aload_n dX9_high_15 rfl ?_
    refine AF.iload_n dX9_high_16 rfl ?_
    refine AF.v1 dX9_high_17 kv_X9_61 (hV) (by assumption) rfl rfl rfl (Nat.le_of_ble_eq_true rfl) (by decide) rfl ?_
    refine AF.imul dX9_high_20 ?_
    rw [pk_mul]
    refine AF.goto 44 dX9_high_21 (by decide) ?_
    exact AF.ireturn dX9_high_44 rfl ⟨by rw [if_neg hb], rfl⟩
set_option maxRecDepth 100000 in
theorem X9_lands_ok (hM : MA G F m g f A) (hS : SR σ f) (hI : SI σ B) (j : Nat) (hj : j < σ.J.length) : AC G mX9_lands 3 0 0 [.ref m, .int (nI j)] F (AV (some (.int (lan σ.J σ.cap σ.w (dem σ.J) j))) F) := by
  have hH := X9_high_ok hM hS hI j hj
  have hn := hS.2.1.1
  have hV := X9_place_ok hM j (by omega)
  rw [(hS.2.1.2 j hj).1] at hV
  obtain ⟨h0, h1, hR⟩ := hM
  refine AC.of [some (.ref m), some (.int (nI j))] rfl (by decide) (Nat.le_of_ble_eq_true rfl) rfl ?_
  refine AF.aload_n dX9_lands_0 rfl ?_
  refine AF.iload_n dX9_lands_1 rfl ?_
  refine AF.v1 dX9_lands_2 kv_X9_68 (hV) (by assumption) rfl rfl rfl (Nat.le_of_ble_eq_true rfl) (by decide) rfl ?_
  refine AF.aload_n dX9_lands_5 rfl ?_
  refine AF.iload_n dX9_lands_6 rfl ?_
  refine AF.v1 dX9_lands_7 kv_X9_71 (hH) (by assumption) rfl rfl rfl (Nat.le_of_ble_eq_true rfl) (by decide) rfl ?_
  refine AF.aload_n dX9_lands_10 rfl ?_
  refine AF.getfield dX9_lands_11 fl_X9_7 (by assumption) rfl ?_
  refine AF.iconst (4) dX9_lands_14 (by decide) ?_
  refine AF.iaload (4) dX9_lands_15 (by assumption) (by first | rfl | exact nI_1 _ | (simp only [nI_add, pk_mul, nI_1]; exact congrArg nI (by omega)) | simp only [nI_add, pk_mul, nI_1]) (by omega) (by decide) ?_
  rw [hS.1.2.2.2.2.1]
  refine AF.imul dX9_lands_16 ?_
  refine AF.bipush (20) dX9_lands_17 (by decide) ?_
  refine AF.idiv dX9_lands_19 (by decide) ?_
  refine AF.iadd dX9_lands_20 ?_
  exact AF.ireturn dX9_lands_21 rfl ⟨rfl, rfl⟩
set_option maxRecDepth 100000 in
theorem X9_wild_ok (hM : MA G F m g f A) (hS : SR σ f) (hI : SI σ B) (j : Nat) (hj : j < σ.J.length) : AC G mX9_wild 4 0 0 [.ref m, .int (nI j)] F (AV (some (.int (bI (wld σ.J σ.cap σ.w j)))) F) := by
  have hL := X9_lands_ok hM hS hI j hj
  obtain ⟨h0, h1, hR⟩ := hM
  refine AC.of [some (.ref m), some (.int (nI j))] rfl (by decide) (Nat.le_of_ble_eq_true rfl) rfl ?_
  refine AF.aload_n dX9_wild_0 rfl ?_
  refine AF.iload_n dX9_wild_1 rfl ?_
  refine AF.v1 dX9_wild_2 kv_X9_74 (hL) (by assumption) rfl rfl rfl (Nat.le_of_ble_eq_true rfl) (by decide) rfl ?_
  refine AF.iconst (0) dX9_wild_5 (by decide) ?_
  refine AF.bipush (99) dX9_wild_6 (by decide) ?_
  refine AF.s1 dX9_wild_8 kv_X9_57 ((X9_in_ok (lan σ.J σ.cap σ.w (dem σ.J) j) 0 99)) rfl rfl (Nat.le_of_ble_eq_true rfl) (by decide) rfl ?_
  rw [inB_wil]
  refine AF.if_ne 18 dX9_wild_11 (by decide) (fun c1 => ?_) (fun c1 => ?_)
  · refine AF.iconst (0) dX9_wild_18 (by decide) ?_
    exact AF.zreturn dX9_wild_19 rfl rfl ⟨by rw [wld, show wil _ = false from by simpa using bI_n c1]; rfl, rfl⟩
  · refine AF.iconst (1) dX9_wild_14 (by decide) ?_
    refine AF.goto 19 dX9_wild_15 (by decide) ?_
    exact AF.zreturn dX9_wild_19 rfl rfl ⟨by rw [wld, show wil _ = true from by simpa using bI_z c1]; rfl, rfl⟩
set_option maxRecDepth 100000 in
theorem X9_lasts_ok (hM : MA G F m g f A) (hS : SG σ.Fg f) {n : Nat} (hI : FI σ.Fg n) (i : Nat) (hi : i < σ.Fg.length) : AC G mX9_lasts 1 0 0 [.ref m, .int (nI i)] F (AV (some (.int (nI (fln (fg σ.Fg i))))) F) := by
  have h5 := hS.1
  obtain ⟨h8, hsc, hrow⟩ := hS.2 i hi
  have hV := X9_steps_ok hM i (by omega)
  have hA := fun k hk => X9_at_ok hM i k 0 (by omega) hk (by omega)
  rw [hsc] at hV
  obtain ⟨h0, h1, hR⟩ := hM
  refine AC.of [some (.ref m), some (.int (nI i)), none, none] rfl (by decide) (Nat.le_of_ble_eq_true rfl) rfl ?_
  have loop : ∀ k j, j + k = (fg σ.Fg i).length → AF G mX9_lasts 1 0 0 (AV (some (.int (nI (fln (fg σ.Fg i))))) F) F 4 [some (.ref m), some (.int (nI i)), some (.int (nI (mxN (fun k => (g3 (fg σ.Fg i) k).1) j))), some (.int (nI j))] [] := by
    intro k
    induction k with
    | zero =>
      intro j hj
      refine AF.iload_n dX9_lasts_4 rfl ?_
      refine AF.aload_n dX9_lasts_5 rfl ?_
      refine AF.iload_n dX9_lasts_6 rfl ?_
      refine AF.v1 dX9_lasts_7 kv_X9_77 (hV) (by assumption) rfl rfl rfl (Nat.le_of_ble_eq_true rfl) (by decide) rfl ?_
      refine AF.icmp_ge 42 dX9_lasts_10 (by decide) (fun hb => ?_) (fun hb => ?_)
      · refine AF.iload_n dX9_lasts_42 rfl ?_
        exact AF.ireturn dX9_lasts_43 rfl ⟨by rw [show j = (fg σ.Fg i).length by omega]; rfl, rfl⟩
      · exact absurd (by rw [nI_leI (by omega) (by omega)]; omega) hb
    | succ k ih =>
      intro j hj
      have q1 := (hI i j (by omega)).1
      have q2 := mxN_le (g := fun k => (g3 (fg σ.Fg i) k).1) (b := 20) j (fun m hm => (hI i m (by omega)).1)
      have hA := hA j (by omega)
      rw [Nat.add_zero, (hrow j (by omega)).1] at hA
      refine AF.iload_n dX9_lasts_4 rfl ?_
      refine AF.aload_n dX9_lasts_5 rfl ?_
      refine AF.iload_n dX9_lasts_6 rfl ?_
      refine AF.v1 dX9_lasts_7 kv_X9_77 (hV) (by assumption) rfl rfl rfl (Nat.le_of_ble_eq_true rfl) (by decide) rfl ?_
      refine AF.icmp_ge 42 dX9_lasts_10 (by decide) (fun hb => ?_) (fun hb => ?_)
      · rw [nI_leI (by omega) (by omega)] at hb
        omega
      · refine AF.aload_n dX9_lasts_13 rfl ?_
        refine AF.iload_n dX9_lasts_14 rfl ?_
        refine AF.iload_n dX9_lasts_15 rfl ?_
        refine AF.iconst (0) dX9_lasts_16 (by decide) ?_
        refine AF.v1 dX9_lasts_17 kv_X9_80 (hA) (by assumption) rfl rfl rfl (Nat.le_of_ble_eq_true rfl) (by decide) rfl ?_
        refine AF.iload_n dX9_lasts_20 rfl ?_
        refine AF.icmp_le 34 dX9_lasts_21 (by decide) (fun hc => ?_) (fun hc => ?_)
        · rw [nI_leI (by omega) (by omega)] at hc
          refine AF.iload_n dX9_lasts_34 rfl ?_
          refine AF.istore_n dX9_lasts_35 (by decide) ?_
          refine AF.inc1 dX9_lasts_36 rfl (by decide) ?_
          refine AF.goto 4 dX9_lasts_39 (by decide) ?_
          have h9 := ih (j + 1) (by omega)
          simp only [mxN] at h9
          rw [if_neg (by omega)] at h9
          exact h9
        · rw [nI_leI (by omega) (by omega)] at hc
          refine AF.aload_n dX9_lasts_24 rfl ?_
          refine AF.iload_n dX9_lasts_25 rfl ?_
          refine AF.iload_n dX9_lasts_26 rfl ?_
          refine AF.iconst (0) dX9_lasts_27 (by decide) ?_
          refine AF.v1 dX9_lasts_28 kv_X9_80 (hA) (by assumption) rfl rfl rfl (Nat.le_of_ble_eq_true rfl) (by decide) rfl ?_
          refine AF.goto 35 dX9_lasts_31 (by decide) ?_
          refine AF.istore_n dX9_lasts_35 (by decide) ?_
          refine AF.inc1 dX9_lasts_36 rfl (by decide) ?_
          refine AF.goto 4 dX9_lasts_39 (by decide) ?_
          have h9 := ih (j + 1) (by omega)
          simp only [mxN] at h9
          rw [if_pos (by omega)] at h9
          exact h9
  refine AF.iconst (0) dX9_lasts_0 (by decide) ?_
  refine AF.istore_n dX9_lasts_1 (by decide) ?_
  refine AF.iconst (0) dX9_lasts_2 (by decide) ?_
  refine AF.istore_n dX9_lasts_3 (by decide) ?_
  exact loop (fg σ.Fg i).length 0 (by omega)
set_option maxRecDepth 100000 in
theorem X9_due_ok (hM : MA G F m g f A) (hS : SG σ.Fg f) {n : Nat} (hI : FI σ.Fg n) (e i t : Nat) (he : e < 6) (hi : i < σ.Fg.length) (h1' : f (153 + 2 * e) = nI i) (h2' : f (153 + 2 * e + 1) = nI t) : AC G mX9_due 2 0 0 [.ref m, .int (nI e)] F (AV (some (.int (nI (t + fln (fg σ.Fg i))))) F) := by
  have hL := X9_lasts_ok hM hS hI i hi
  obtain ⟨h0, h1, hR⟩ := hM
  refine AC.of [some (.ref m), some (.int (nI e))] rfl (by decide) (Nat.le_of_ble_eq_true rfl) rfl ?_
  refine AF.aload_n dX9_due_0 rfl ?_
  refine AF.getfield dX9_due_1 fl_X9_7 (by assumption) rfl ?_
  refine AF.sipush (nI 153) dX9_due_4 (by decide) ?_
  refine AF.iconst (nI 2) dX9_due_7 (by decide) ?_
  refine AF.iload_n dX9_due_8 rfl ?_
  refine AF.imul dX9_due_9 ?_
  refine AF.iadd dX9_due_10 ?_
  refine AF.iconst (nI 1) dX9_due_11 (by decide) ?_
  refine AF.iadd dX9_due_12 ?_
  refine AF.iaload (153 + 2 * e + 1) dX9_due_13 (by assumption) (by first | rfl | exact nI_1 _ | (simp only [nI_add, pk_mul, nI_1]; exact congrArg nI (by omega)) | simp only [nI_add, pk_mul, nI_1]) (by omega) (by decide) ?_
  rw [h2']
  refine AF.aload_n dX9_due_14 rfl ?_
  refine AF.aload_n dX9_due_15 rfl ?_
  refine AF.getfield dX9_due_16 fl_X9_7 (by assumption) rfl ?_
  refine AF.sipush (nI 153) dX9_due_19 (by decide) ?_
  refine AF.iconst (nI 2) dX9_due_22 (by decide) ?_
  refine AF.iload_n dX9_due_23 rfl ?_
  refine AF.imul dX9_due_24 ?_
  refine AF.iadd dX9_due_25 ?_
  refine AF.iaload (153 + 2 * e) dX9_due_26 (by assumption) (by first | rfl | exact nI_1 _ | (simp only [nI_add, pk_mul, nI_1]; exact congrArg nI (by omega)) | simp only [nI_add, pk_mul, nI_1]) (by omega) (by decide) ?_
  rw [h1']
  refine AF.v1 dX9_due_27 kv_X9_84 (hL) (by assumption) rfl rfl rfl (Nat.le_of_ble_eq_true rfl) (by decide) rfl ?_
  refine AF.iadd dX9_due_30 ?_
  exact AF.ireturn dX9_due_31 rfl ⟨by rw [nI_add], rfl⟩
end

