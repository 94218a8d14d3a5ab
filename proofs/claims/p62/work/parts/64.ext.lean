/-! Words and lemmas that the class's parts and the law's share. -/
/-- the number that a reading leaves -/
def vlR (T : List Int32) (most : Nat) (s : PS) : Int32 := nI (if s.1 = true then nvl T most s.2.1 0 else 0)
theorem nuR_ok {T : List Int32} {most : Nat} {s : PS} (h : (nuR T most s).1 = true) : s.1 = true ∧ (nuR T most s).2.2 = s.2.2 ++ [vlR T most s] := by
  unfold nuR at h ⊢
  split at h
  · rename_i q
    rw [if_pos q, vlR, if_pos q.1]
    exact ⟨q.1, rfl⟩
  · cases h
theorem chR_ok {T : List Int32} {c : Int32} {s : PS} (h : (chR T c s).1 = true) : s.1 = true ∧ (chR T c s).2.2 = s.2.2 := by
  unfold chR at h ⊢
  split at h
  · rename_i q
    rw [if_pos q]
    exact ⟨q.1, rfl⟩
  · cases h
theorem saR_ok {T : List Int32} {tx : String} {s : PS} : ∀ j, (saR T tx s j).1 = true → s.1 = true ∧ (saR T tx s j).2.2 = s.2.2
  | 0, h => ⟨h, rfl⟩
  | j + 1, h => by
    have h1 := chR_ok (T := T) (s := saR T tx s j) h
    have h2 := saR_ok j h1.1
    exact ⟨h2.1, h1.2.trans h2.2⟩
/-- a stretch of plain signs in a pattern -/
theorem ruR_seg {T : List Int32} {tx tx' : String} {s : PS} {j0 : Nat} : ∀ j, (∀ i, i < j → sby tx (j0 + i) = sby tx' i ∧ PLN tx (j0 + i)) → ruR T tx s (j0 + j) = saR T tx' (ruR T tx s j0) j
  | 0, _ => rfl
  | j + 1, h => by
    have h1 := ruR_seg (T := T) (s := s) j (fun i hi => h i (by omega))
    show paR T (sby tx (j0 + j)) (ruR T tx s (j0 + j)) = chR T (sby tx' j) (saR T tx' (ruR T tx s j0) j)
    rw [paR_ch (h j (by omega)).2, h1, (h j (by omega)).1]
theorem prC_0 {T : List Int32} {p : Nat} : prC T p 0 = nuR T 3 (saR T "jet " (true, p, []) 4) := by
  have h := ruR_seg (T := T) (tx := "jet N") (tx' := "jet ") (s := (true, p, [])) (j0 := 0) 4 (by unfold PLN; decide +kernel)
  show paR T (sby "jet N" 4) (ruR T "jet N" (true, p, []) (0 + 4)) = _
  rw [h]; rfl
theorem prC_1 {T : List Int32} {p : Nat} : prC T p 1 = nuR T 3 (saR T "=" (nuR T 1 (saR T "open " (true, p, []) 5)) 1) := by
  have h := ruR_seg (T := T) (tx := "open D=N") (tx' := "open ") (s := (true, p, [])) (j0 := 0) 5 (by unfold PLN; decide +kernel)
  have h2 := ruR_seg (T := T) (tx := "open D=N") (tx' := "=") (s := (true, p, [])) (j0 := 6) 1 (by unfold PLN; decide +kernel)
  have h3 : ruR T "open D=N" (true, p, []) 6 = nuR T 1 (saR T "open " (true, p, []) 5) := by
    show paR T (sby "open D=N" 5) (ruR T "open D=N" (true, p, []) (0 + 5)) = _
    rw [h]; rfl
  show paR T (sby "open D=N" 7) (ruR T "open D=N" (true, p, []) (6 + 1)) = _
  rw [h2, h3]; rfl
theorem prC_2 {T : List Int32} {p : Nat} : prC T p 2 = nuR T 3 (saR T "pump " (true, p, []) 5) := by
  have h := ruR_seg (T := T) (tx := "pump N") (tx' := "pump ") (s := (true, p, [])) (j0 := 0) 5 (by unfold PLN; decide +kernel)
  show paR T (sby "pump N" 5) (ruR T "pump N" (true, p, []) (0 + 5)) = _
  rw [h]; rfl
theorem prC_3 {T : List Int32} {p : Nat} : prC T p 3 = nuR T 1 (sgR T (saR T "wind " (true, p, []) 5)) := by
  have h := ruR_seg (T := T) (tx := "wind SD") (tx' := "wind ") (s := (true, p, [])) (j0 := 0) 5 (by unfold PLN; decide +kernel)
  show paR T (sby "wind SD" 6) (paR T (sby "wind SD" 5) (ruR T "wind SD" (true, p, []) (0 + 5))) = _
  rw [h]; rfl
theorem prC_4 {T : List Int32} {p : Nat} : prC T p 4 = saR T "trim" (true, p, []) 4 := by
  have h := ruR_seg (T := T) (tx := "trim") (tx' := "trim") (s := (true, p, [])) (j0 := 0) 4 (by unfold PLN; decide +kernel)
  exact h
theorem prC_5 {T : List Int32} {p : Nat} : prC T p 5 = saR T "figure" (true, p, []) 6 := by
  have h := ruR_seg (T := T) (tx := "figure") (tx' := "figure") (s := (true, p, [])) (j0 := 0) 6 (by unfold PLN; decide +kernel)
  exact h
theorem prC_6 {T : List Int32} {p : Nat} : prC T p 6 = nuR T 3 (saR T "=" (nuR T 1 (saR T ":" (nuR T 3 (saR T "+" (nuR T 1 (saR T "step " (true, p, []) 5)) 1)) 1)) 1) := by
  have h := ruR_seg (T := T) (tx := "step D+N:D=N") (tx' := "step ") (s := (true, p, [])) (j0 := 0) 5 (by unfold PLN; decide +kernel)
  have h2 := ruR_seg (T := T) (tx := "step D+N:D=N") (tx' := "+") (s := (true, p, [])) (j0 := 6) 1 (by unfold PLN; decide +kernel)
  have h4 := ruR_seg (T := T) (tx := "step D+N:D=N") (tx' := ":") (s := (true, p, [])) (j0 := 8) 1 (by unfold PLN; decide +kernel)
  have h6 := ruR_seg (T := T) (tx := "step D+N:D=N") (tx' := "=") (s := (true, p, [])) (j0 := 10) 1 (by unfold PLN; decide +kernel)
  have h3 : ruR T "step D+N:D=N" (true, p, []) 6 = nuR T 1 (saR T "step " (true, p, []) 5) := by
    show paR T (sby "step D+N:D=N" 5) (ruR T "step D+N:D=N" (true, p, []) (0 + 5)) = _
    rw [h]; rfl
  have h5 : ruR T "step D+N:D=N" (true, p, []) 8 = nuR T 3 (saR T "+" (nuR T 1 (saR T "step " (true, p, []) 5)) 1) := by
    show paR T (sby "step D+N:D=N" 7) (ruR T "step D+N:D=N" (true, p, []) (6 + 1)) = _
    rw [h2, h3]; rfl
  have h7 : ruR T "step D+N:D=N" (true, p, []) 10 = nuR T 1 (saR T ":" (nuR T 3 (saR T "+" (nuR T 1 (saR T "step " (true, p, []) 5)) 1)) 1) := by
    show paR T (sby "step D+N:D=N" 9) (ruR T "step D+N:D=N" (true, p, []) (8 + 1)) = _
    rw [h4, h5]; rfl
  show paR T (sby "step D+N:D=N" 11) (ruR T "step D+N:D=N" (true, p, []) (10 + 1)) = _
  rw [h6, h7]; rfl
theorem prC_7 {T : List Int32} {p : Nat} : prC T p 7 = nuR T 3 (saR T "+" (nuR T 1 (saR T "play " (true, p, []) 5)) 1) := by
  have h := ruR_seg (T := T) (tx := "play D+N") (tx' := "play ") (s := (true, p, [])) (j0 := 0) 5 (by unfold PLN; decide +kernel)
  have h2 := ruR_seg (T := T) (tx := "play D+N") (tx' := "+") (s := (true, p, [])) (j0 := 6) 1 (by unfold PLN; decide +kernel)
  have h3 : ruR T "play D+N" (true, p, []) 6 = nuR T 1 (saR T "play " (true, p, []) 5) := by
    show paR T (sby "play D+N" 5) (ruR T "play D+N" (true, p, []) (0 + 5)) = _
    rw [h]; rfl
  show paR T (sby "play D+N" 7) (ruR T "play D+N" (true, p, []) (6 + 1)) = _
  rw [h2, h3]; rfl
theorem prC_8 {T : List Int32} {p : Nat} : prC T p 8 = nuR T 3 (saR T "pass " (true, p, []) 5) := by
  have h := ruR_seg (T := T) (tx := "pass N") (tx' := "pass ") (s := (true, p, [])) (j0 := 0) 5 (by unfold PLN; decide +kernel)
  show paR T (sby "pass N" 5) (ruR T "pass N" (true, p, []) (0 + 5)) = _
  rw [h]; rfl
def tdA (c : Nat) (ns : List Int32) : List Int32 := if c = 3 then [ns.getD 0 0 * ns.getD 1 0] else ns
theorem cix_c {T : List Int32} {p c : Nat} (h : cix T p = some c) : cmS T p = prC T p c ∧ cmC T p = c := by
  unfold cmS cmC; rw [h]; exact ⟨rfl, rfl⟩
