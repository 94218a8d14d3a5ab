/-! The reference: reading the text. -/
def TOK (T : List Int32) (A : Nat → Nat → Int32) : Prop := T.length ≤ 60 ∧ ∀ i, i < T.length → A 5 i = T.getD i 0
def MT (G : GA) (F : AH) (m : Nat) (g f : Nat → Int32) (A : Nat → Nat → Int32) (T : List Int32) (ok : Bool) (p cm : Nat) (td : Nat → Int32) : Prop := ∃ g', MA G F m g' f (uA A 6 td) ∧ g' 16 = nI p ∧ g' 17 = nI T.length ∧ g' 18 = nI cm ∧ g' 19 = bI (!ok) ∧ ∀ k, k < 16 → g' k = g k
/-- the number that a reading leaves -/
def vlR (T : List Int32) (most : Nat) (s : PS) : Int32 := nI (if s.1 = true then nvl T most s.2.1 0 else 0)
theorem nuR_ok {T : List Int32} {most : Nat} {s : PS} (h : (nuR T most s).1 = true) : s.1 = true ∧ (nuR T most s).2.2 = s.2.2 ++ [vlR T most s] := by
  unfold nuR at h ⊢
  split at h
  · rename_i q
    rw [if_pos q, vlR, if_pos q.1]
    exact ⟨q.1, rfl⟩
  · cases h
theorem chR_ok {T : List Int32} {c : Int32} {s : PS} (h : (chR T c s).1 = true) : s.1 = true ∧ (chR T c s).2.2 = s.2.2 := by
  unfold chR at h ⊢
  split at h
  · rename_i q
    rw [if_pos q]
    exact ⟨q.1, rfl⟩
  · cases h
theorem saR_ok {T : List Int32} {tx : String} {s : PS} : ∀ j, (saR T tx s j).1 = true → s.1 = true ∧ (saR T tx s j).2.2 = s.2.2
  | 0, h => ⟨h, rfl⟩
  | j + 1, h => by
    have h1 := chR_ok (T := T) (s := saR T tx s j) h
    have h2 := saR_ok j h1.1
    exact ⟨h2.1, h1.2.trans h2.2⟩
/-- a stretch of plain signs in a pattern -/
theorem ruR_seg {T : List Int32} {tx tx' : String} {s : PS} {j0 : Nat} : ∀ j, (∀ i, i < j → sby tx (j0 + i) = sby tx' i ∧ PLN tx (j0 + i)) → ruR T tx s (j0 + j) = saR T tx' (ruR T tx s j0) j
  | 0, _ => rfl
  | j + 1, h => by
    have h1 := ruR_seg (T := T) (s := s) j (fun i hi => h i (by omega))
    show paR T (sby tx (j0 + j)) (ruR T tx s (j0 + j)) = chR T (sby tx' j) (saR T tx' (ruR T tx s j0) j)
    rw [paR_ch (h j (by omega)).2, h1, (h j (by omega)).1]
theorem prC_0 {T : List Int32} {p : Nat} : prC T p 0 = nuR T 3 (saR T "jet " (true, p, []) 4) := by
  have h := ruR_seg (T := T) (tx := "jet N") (tx' := "jet ") (s := (true, p, [])) (j0 := 0) 4 (by unfold PLN; decide +kernel)
  show paR T (sby "jet N" 4) (ruR T "jet N" (true, p, []) (0 + 4)) = _
  rw [h]; rfl
theorem prC_1 {T : List Int32} {p : Nat} : prC T p 1 = nuR T 3 (saR T "=" (nuR T 1 (saR T "open " (true, p, []) 5)) 1) := by
  have h := ruR_seg (T := T) (tx := "open D=N") (tx' := "open ") (s := (true, p, [])) (j0 := 0) 5 (by unfold PLN; decide +kernel)
  have h2 := ruR_seg (T := T) (tx := "open D=N") (tx' := "=") (s := (true, p, [])) (j0 := 6) 1 (by unfold PLN; decide +kernel)
  have h3 : ruR T "open D=N" (true, p, []) 6 = nuR T 1 (saR T "open " (true, p, []) 5) := by
    show paR T (sby "open D=N" 5) (ruR T "open D=N" (true, p, []) (0 + 5)) = _
    rw [h]; rfl
  show paR T (sby "open D=N" 7) (ruR T "open D=N" (true, p, []) (6 + 1)) = _
  rw [h2, h3]; rfl
theorem prC_2 {T : List Int32} {p : Nat} : prC T p 2 = nuR T 3 (saR T "pump " (true, p, []) 5) := by
  have h := ruR_seg (T := T) (tx := "pump N") (tx' := "pump ") (s := (true, p, [])) (j0 := 0) 5 (by unfold PLN; decide +kernel)
  show paR T (sby "pump N" 5) (ruR T "pump N" (true, p, []) (0 + 5)) = _
  rw [h]; rfl
theorem prC_3 {T : List Int32} {p : Nat} : prC T p 3 = nuR T 1 (sgR T (saR T "wind " (true, p, []) 5)) := by
  have h := ruR_seg (T := T) (tx := "wind SD") (tx' := "wind ") (s := (true, p, [])) (j0 := 0) 5 (by unfold PLN; decide +kernel)
  show paR T (sby "wind SD" 6) (paR T (sby "wind SD" 5) (ruR T "wind SD" (true, p, []) (0 + 5))) = _
  rw [h]; rfl
theorem prC_4 {T : List Int32} {p : Nat} : prC T p 4 = saR T "trim" (true, p, []) 4 := by
  have h := ruR_seg (T := T) (tx := "trim") (tx' := "trim") (s := (true, p, [])) (j0 := 0) 4 (by unfold PLN; decide +kernel)
  exact h
theorem prC_5 {T : List Int32} {p : Nat} : prC T p 5 = saR T "figure" (true, p, []) 6 := by
  have h := ruR_seg (T := T) (tx := "figure") (tx' := "figure") (s := (true, p, [])) (j0 := 0) 6 (by unfold PLN; decide +kernel)
  exact h
theorem prC_6 {T : List Int32} {p : Nat} : prC T p 6 = nuR T 3 (saR T "=" (nuR T 1 (saR T ":" (nuR T 3 (saR T "+" (nuR T 1 (saR T "step " (true, p, []) 5)) 1)) 1)) 1) := by
  have h := ruR_seg (T := T) (tx := "step D+N:D=N") (tx' := "step ") (s := (true, p, [])) (j0 := 0) 5 (by unfold PLN; decide +kernel)
  have h2 := ruR_seg (T := T) (tx := "step D+N:D=N") (tx' := "+") (s := (true, p, [])) (j0 := 6) 1 (by unfold PLN; decide +kernel)
  have h4 := ruR_seg (T := T) (tx := "step D+N:D=N") (tx' := ":") (s := (true, p, [])) (j0 := 8) 1 (by unfold PLN; decide +kernel)
  have h6 := ruR_seg (T := T) (tx := "step D+N:D=N") (tx' := "=") (s := (true, p, [])) (j0 := 10) 1 (by unfold PLN; decide +kernel)
  have h3 : ruR T "step D+N:D=N" (true, p, []) 6 = nuR T 1 (saR T "step " (true, p, []) 5) := by
    show paR T (sby "step D+N:D=N" 5) (ruR T "step D+N:D=N" (true, p, []) (0 + 5)) = _
    rw [h]; rfl
  have h5 : ruR T "step D+N:D=N" (true, p, []) 8 = nuR T 3 (saR T "+" (nuR T 1 (saR T "step " (true, p, []) 5)) 1) := by
    show paR T (sby "step D+N:D=N" 7) (ruR T "step D+N:D=N" (true, p, []) (6 + 1)) = _
    rw [h2, h3]; rfl
  have h7 : ruR T "step D+N:D=N" (true, p, []) 10 = nuR T 1 (saR T ":" (nuR T 3 (saR T "+" (nuR T 1 (saR T "step " (true, p, []) 5)) 1)) 1) := by
    show paR T (sby "step D+N:D=N" 9) (ruR T "step D+N:D=N" (true, p, []) (8 + 1)) = _
    rw [h4, h5]; rfl
  show paR T (sby "step D+N:D=N" 11) (ruR T "step D+N:D=N" (true, p, []) (10 + 1)) = _
  rw [h6, h7]; rfl
theorem prC_7 {T : List Int32} {p : Nat} : prC T p 7 = nuR T 3 (saR T "+" (nuR T 1 (saR T "play " (true, p, []) 5)) 1) := by
  have h := ruR_seg (T := T) (tx := "play D+N") (tx' := "play ") (s := (true, p, [])) (j0 := 0) 5 (by unfold PLN; decide +kernel)
  have h2 := ruR_seg (T := T) (tx := "play D+N") (tx' := "+") (s := (true, p, [])) (j0 := 6) 1 (by unfold PLN; decide +kernel)
  have h3 : ruR T "play D+N" (true, p, []) 6 = nuR T 1 (saR T "play " (true, p, []) 5) := by
    show paR T (sby "play D+N" 5) (ruR T "play D+N" (true, p, []) (0 + 5)) = _
    rw [h]; rfl
  show paR T (sby "play D+N" 7) (ruR T "play D+N" (true, p, []) (6 + 1)) = _
  rw [h2, h3]; rfl
theorem prC_8 {T : List Int32} {p : Nat} : prC T p 8 = nuR T 3 (saR T "pass " (true, p, []) 5) := by
  have h := ruR_seg (T := T) (tx := "pass N") (tx' := "pass ") (s := (true, p, [])) (j0 := 0) 5 (by unfold PLN; decide +kernel)
  show paR T (sby "pass N" 5) (ruR T "pass N" (true, p, []) (0 + 5)) = _
  rw [h]; rfl
section
variable {G : GA} {F : AH} {m : Nat} {g f : Nat → Int32} {A : Nat → Nat → Int32} {T : List Int32} {ok : Bool} {p cm : Nat} {td : Nat → Int32} {a v : Nat} {tx : String}
set_option maxRecDepth 100000 in
theorem X9_here_ok (hM : MT G F m g f A T ok p cm td) (hT : TOK T A) (hp : p ≤ 60) (k : Nat) (hk : k ≤ 1) : AC G mX9_here 0 0 0 [.ref m, .int (nI k)] F (AV (some (.int (hereT T (p + k)))) F) := by
  obtain ⟨g', ⟨h0, h1, h2, h3, h4, h5, h6, h7, h8⟩, e16, e17, e18, e19, eg⟩ := hM
  have h60 := hT.1
  refine AC.of [some (.ref m), some (.int (nI k))] rfl (by decide) (Nat.le_of_ble_eq_true rfl) rfl ?_
  unfold hereT
  refine AF.aload_n dX9_here_0 rfl ?_
  refine AF.getfield dX9_here_1 fl_X9_211 (by assumption) rfl ?_
  rw [e16]
  refine AF.iload_n dX9_here_4 rfl ?_
  refine AF.iadd dX9_here_5 ?_
  rw [nI_add]
  refine AF.aload_n dX9_here_6 rfl ?_
  refine AF.getfield dX9_here_7 fl_X9_214 (by assumption) rfl ?_
  rw [e17]
  refine AF.icmp_ge 27 dX9_here_10 (by decide) (fun hb => ?_) (fun hb => ?_)
  · rw [nI_leI (by omega) (by omega)] at hb
    rw [if_neg (by omega)]
    refine AF.iconst (-1) dX9_here_27 (by decide) ?_
    exact AF.ireturn dX9_here_28 rfl ⟨rfl, rfl⟩
  · rw [nI_leI (by omega) (by omega)] at hb
    rw [if_pos (by omega)]
    refine AF.aload_n dX9_here_13 rfl ?_
    refine AF.getfield dX9_here_14 fl_X9_25 (by assumption) rfl ?_
    refine AF.aload_n dX9_here_17 rfl ?_
    refine AF.getfield dX9_here_18 fl_X9_211 (by assumption) rfl ?_
    rw [e16]
    refine AF.iload_n dX9_here_21 rfl ?_
    refine AF.iadd dX9_here_22 ?_
    rw [nI_add]
    refine AF.iaload (p + k) dX9_here_23 (by assumption) (by first | rfl | exact nI_1 _ | (simp only [nI_add, pk_mul, nI_1]; exact congrArg nI (by omega)) | simp only [nI_add, pk_mul, nI_1]) (by omega) (by decide) ?_
    refine AF.goto 28 dX9_here_24 (by decide) ?_
    rw [show uA A 6 td 5 (p + k) = T.getD (p + k) 0 from hT.2 _ (by omega)]
    exact AF.ireturn dX9_here_28 rfl ⟨rfl, rfl⟩
set_option maxRecDepth 100000 in
set_option maxHeartbeats 4000000 in
theorem X9_says_ok (s : PS) (hM : MT G F m g f A T s.1 s.2.1 cm td) (ha : gN G ≤ m) (hT : TOK T A) (hp : s.2.1 ≤ T.length) (hS : STR G a v tx) (hx : TXok tx) : AC G mX9_says 4 0 0 [.ref m, .ref a] F (fun r F' => r = .inl none ∧ MT G F' m g f A T (saR T tx s tx.toList.length).1 (saR T tx s tx.toList.length).2.1 cm td ∧ Fr m (m + 9) F F') := by
  have hO := hS.1
  have h60 := hT.1
  have hx100 := hx.1
  refine AC.of [some (.ref m), some (.ref a), none] rfl (by decide) (Nat.le_of_ble_eq_true rfl) rfl ?_
  have loop : ∀ r k F1, k + r = tx.toList.length → MT G F1 m g f A T (saR T tx s k).1 (saR T tx s k).2.1 cm td → Fr m (m + 9) F F1 → AF G mX9_says 4 0 0 (fun r F' => r = .inl none ∧ MT G F' m g f A T (saR T tx s tx.toList.length).1 (saR T tx s tx.toList.length).2.1 cm td ∧ Fr m (m + 9) F F') F1 2 [some (.ref m), some (.ref a), some (.int (nI k))] [] := by
    intro r
    induction r with
    | zero =>
      intro k F1 hk hM hfr
      refine AF.iload_n dX9_says_2 rfl ?_
      refine AF.aload_n dX9_says_3 rfl ?_
      refine AF.vc1 dX9_says_4 jv_X9_217 (J0_length_ok hS) hO rfl rfl (Nat.le_of_ble_eq_true rfl) (by decide) rfl ?_
      refine AF.icmp_ge 66 dX9_says_7 (by decide) (fun hb => ?_) (fun hb => ?_)
      · rw [show k = tx.toList.length by omega] at hM
        exact AF.vreturn dX9_says_66 rfl ⟨rfl, hM, hfr⟩
      · exact absurd (by rw [nI_leI (by omega) (by omega)]; omega) hb
    | succ r ih =>
      intro k F1 hk hM hfr
      have hkl : k < tx.toList.length := by omega
      have hle := saR_le hx hp k (by omega)
      have hH := X9_here_ok hM hT (by omega) 0 (by omega)
      have hCh := J0_charAt_ok (F := F1) hS hkl (by omega) (hx.2 k hkl)
      have hM0 := hM
      obtain ⟨g', ⟨h0, h1, h2, h3, h4, h5, h6, h7, h8⟩, e16, e17, e18, e19, eg⟩ := hM
      refine AF.iload_n dX9_says_2 rfl ?_
      refine AF.aload_n dX9_says_3 rfl ?_
      refine AF.vc1 dX9_says_4 jv_X9_217 (J0_length_ok hS) hO rfl rfl (Nat.le_of_ble_eq_true rfl) (by decide) rfl ?_
      refine AF.icmp_ge 66 dX9_says_7 (by decide) (fun hb => ?_) (fun hb => ?_)
      · rw [nI_leI (by omega) (by omega)] at hb
        omega
      · refine AF.aload_n dX9_says_10 rfl ?_
        refine AF.getfield dX9_says_11 fl_X9_221 (by assumption) rfl ?_
        rw [e19]
        refine AF.if_ne 66 dX9_says_14 (by decide) (fun hw => ?_) (fun hw => ?_)
        · have hw : (saR T tx s k).1 = false := by simpa using bI_n hw
          refine AF.vreturn dX9_says_66 rfl ⟨rfl, ?_, hfr⟩
          have h9 := saR_f hw (r + 1)
          rw [hk] at h9
          rw [h9]
          exact hM0
        · have hw : (saR T tx s k).1 = true := by simpa using bI_z hw
          refine AF.aload_n dX9_says_17 rfl ?_
          refine AF.aload_n dX9_says_18 rfl ?_
          refine AF.iconst (nI 0) dX9_says_19 (by decide) ?_
          refine AF.v1 dX9_says_20 kv_X9_225 (hH) (by assumption) rfl rfl rfl (Nat.le_of_ble_eq_true rfl) (by decide) rfl ?_
          refine AF.aload_n dX9_says_23 rfl ?_
          refine AF.iload_n dX9_says_24 rfl ?_
          refine AF.vc1 dX9_says_25 jv_X9_228 hCh hO rfl rfl (Nat.le_of_ble_eq_true rfl) (by decide) rfl ?_
          refine AF.icmp_eq 35 dX9_says_28 (by decide) (fun hc => ?_) (fun hc => ?_)
          · have hs : saR T tx s (k + 1) = (true, (saR T tx s k).2.1 + 1, (saR T tx s k).2.2) := if_pos ⟨hw, hc⟩
            refine AF.iconst (nI 0) dX9_says_35 (by decide) ?_
            refine AF.putfieldF dX9_says_36 fp_X9_221 h0 (by omega) (Nat.le_of_ble_eq_true rfl) rfl rfl (Or.inr fq_6_19) ?_
            intro F e9 h9 o9
            replace h1 := (o9 (m + 1) (by omega)).trans h1
            replace h2 := (o9 (m + 2) (by omega)).trans h2
            replace h3 := (o9 (m + 3) (by omega)).trans h3
            replace h4 := (o9 (m + 4) (by omega)).trans h4
            replace h5 := (o9 (m + 5) (by omega)).trans h5
            replace h6 := (o9 (m + 6) (by omega)).trans h6
            replace h7 := (o9 (m + 7) (by omega)).trans h7
            replace h8 := (o9 (m + 8) (by omega)).trans h8
            replace h0 := h9
            replace hfr := hfr.step e9 (by omega) (by omega) o9
            clear e9 h9 o9
            refine AF.aload_n dX9_says_39 rfl ?_
            refine AF.dup dX9_says_40 rfl ?_
            refine AF.getfield dX9_says_41 fl_X9_211 (by assumption) rfl ?_
            rw [e16]
            refine AF.aload_n dX9_says_44 rfl ?_
            refine AF.getfield dX9_says_45 fl_X9_221 (by assumption) rfl ?_
            refine AF.if_eq 55 dX9_says_48 (by decide) (fun hz => ?_) (fun hz => ?_)
            · refine AF.iconst (nI 1) dX9_says_55 (by decide) ?_
              refine AF.iadd dX9_says_56 ?_
              rw [nI_add]
              refine AF.putfieldF dX9_says_57 fp_X9_211 h0 (by omega) (Nat.le_of_ble_eq_true rfl) rfl rfl (Or.inr fq_6_16) ?_
              intro F e9 h9 o9
              replace h1 := (o9 (m + 1) (by omega)).trans h1
              replace h2 := (o9 (m + 2) (by omega)).trans h2
              replace h3 := (o9 (m + 3) (by omega)).trans h3
              replace h4 := (o9 (m + 4) (by omega)).trans h4
              replace h5 := (o9 (m + 5) (by omega)).trans h5
              replace h6 := (o9 (m + 6) (by omega)).trans h6
              replace h7 := (o9 (m + 7) (by omega)).trans h7
              replace h8 := (o9 (m + 8) (by omega)).trans h8
              replace h0 := h9
              replace hfr := hfr.step e9 (by omega) (by omega) o9
              clear e9 h9 o9
              refine AF.inc1 dX9_says_60 rfl (by decide) ?_
              refine AF.goto 2 dX9_says_63 (by decide) ?_
              refine ih (k + 1) F (by omega) ?_ hfr
              rw [hs]
              exact ⟨upd (upd g' 19 (nI 0)) 16 (nI ((saR T tx s k).2.1 + 1)), ⟨h0, h1, h2, h3, h4, h5, h6, h7, h8⟩, rfl, e17, e18, rfl, fun q hq => by rw [upd_n (by omega), upd_n (by omega)]; exact eg q hq⟩
            · exact absurd rfl hz
          · have hs : saR T tx s (k + 1) = (false, (saR T tx s k).2.1, (saR T tx s k).2.2) := if_neg (fun q => hc q.2)
            refine AF.iconst (nI 1) dX9_says_31 (by decide) ?_
            refine AF.goto 36 dX9_says_32 (by decide) ?_
            refine AF.putfieldF dX9_says_36 fp_X9_221 h0 (by omega) (Nat.le_of_ble_eq_true rfl) rfl rfl (Or.inr fq_6_19) ?_
            intro F e9 h9 o9
            replace h1 := (o9 (m + 1) (by omega)).trans h1
            replace h2 := (o9 (m + 2) (by omega)).trans h2
            replace h3 := (o9 (m + 3) (by omega)).trans h3
            replace h4 := (o9 (m + 4) (by omega)).trans h4
            replace h5 := (o9 (m + 5) (by omega)).trans h5
            replace h6 := (o9 (m + 6) (by omega)).trans h6
            replace h7 := (o9 (m + 7) (by omega)).trans h7
            replace h8 := (o9 (m + 8) (by omega)).trans h8
            replace h0 := h9
            replace hfr := hfr.step e9 (by omega) (by omega) o9
            clear e9 h9 o9
            refine AF.aload_n dX9_says_39 rfl ?_
            refine AF.dup dX9_says_40 rfl ?_
            refine AF.getfield dX9_says_41 fl_X9_211 (by assumption) rfl ?_
            rw [e16]
            refine AF.aload_n dX9_says_44 rfl ?_
            refine AF.getfield dX9_says_45 fl_X9_221 (by assumption) rfl ?_
            refine AF.if_eq 55 dX9_says_48 (by decide) (fun hz => ?_) (fun hz => ?_)
            · exact absurd (hz : nI 1 = 0) (by decide)
            · refine AF.iconst (nI 0) dX9_says_51 (by decide) ?_
              refine AF.goto 56 dX9_says_52 (by decide) ?_
              refine AF.iadd dX9_says_56 ?_
              rw [nI_add]
              refine AF.putfieldF dX9_says_57 fp_X9_211 h0 (by omega) (Nat.le_of_ble_eq_true rfl) rfl rfl (Or.inr fq_6_16) ?_
              intro F e9 h9 o9
              replace h1 := (o9 (m + 1) (by omega)).trans h1
              replace h2 := (o9 (m + 2) (by omega)).trans h2
              replace h3 := (o9 (m + 3) (by omega)).trans h3
              replace h4 := (o9 (m + 4) (by omega)).trans h4
              replace h5 := (o9 (m + 5) (by omega)).trans h5
              replace h6 := (o9 (m + 6) (by omega)).trans h6
              replace h7 := (o9 (m + 7) (by omega)).trans h7
              replace h8 := (o9 (m + 8) (by omega)).trans h8
              replace h0 := h9
              replace hfr := hfr.step e9 (by omega) (by omega) o9
              clear e9 h9 o9
              refine AF.inc1 dX9_says_60 rfl (by decide) ?_
              refine AF.goto 2 dX9_says_63 (by decide) ?_
              refine ih (k + 1) F (by omega) ?_ hfr
              rw [hs]
              exact ⟨upd (upd g' 19 (nI 1)) 16 (nI ((saR T tx s k).2.1 + 0)), ⟨h0, h1, h2, h3, h4, h5, h6, h7, h8⟩, rfl, e17, e18, rfl, fun q hq => by rw [upd_n (by omega), upd_n (by omega)]; exact eg q hq⟩
  refine AF.iconst (nI 0) dX9_says_0 (by decide) ?_
  refine AF.istore_n dX9_says_1 (by decide) ?_
  exact loop tx.toList.length 0 F (by omega) hM Fr.rf
set_option maxRecDepth 100000 in
set_option maxHeartbeats 4000000 in
theorem X9_number_ok (s : PS) (hM : MT G F m g f A T s.1 s.2.1 cm td) (ha : gN G ≤ m) (hT : TOK T A) (hp : s.2.1 ≤ T.length) (k most : Nat) (hk : k ≤ 4) (hm : most ≤ 3) (hcm : cm ≤ 58) : AC G mX9_number 1 0 0 [.ref m, .int (nI k), .int (nI most)] F (fun r F' => r = .inl none ∧ MT G F' m g f A T (nuR T most s).1 (nuR T most s).2.1 cm (upd td (5 * cm + k) (vlR T most s)) ∧ Fr m (m + 9) F F') := by
  have h60 := hT.1
  refine AC.of [some (.ref m), some (.int (nI k)), some (.int (nI most)), none, none] rfl (by decide) (Nat.le_of_ble_eq_true rfl) rfl ?_
  have fin : ∀ F1 x y w z5, MT G F1 m g f A T x (nuR T most s).2.1 cm td → Fr m (m + 9) F F1 → y = vlR T most s → (nuR T most s).1 = !w → AF G mX9_number 1 0 0 (fun r F' => r = .inl none ∧ MT G F' m g f A T (nuR T most s).1 (nuR T most s).2.1 cm (upd td (5 * cm + k) (vlR T most s)) ∧ Fr m (m + 9) F F') F1 81 [some (.ref m), some (.int (nI k)), some (.int (nI most)), some (.int y), z5] [.int (bI w), .ref m] := by
    intro F1 x y w z5 hM hfr hy hw
    cases w with
    | false =>
      obtain ⟨g', ⟨h0, h1, h2, h3, h4, h5, h6, h7, h8⟩, e16, e17, e18, e19, eg⟩ := hM
      refine AF.putfieldF dX9_number_81 fp_X9_221 h0 (by omega) (Nat.le_of_ble_eq_true rfl) rfl rfl (Or.inr fq_6_19) ?_
      intro F e9 h9 o9
      replace h1 := (o9 (m + 1) (by omega)).trans h1
      replace h2 := (o9 (m + 2) (by omega)).trans h2
      replace h3 := (o9 (m + 3) (by omega)).trans h3
      replace h4 := (o9 (m + 4) (by omega)).trans h4
      replace h5 := (o9 (m + 5) (by omega)).trans h5
      replace h6 := (o9 (m + 6) (by omega)).trans h6
      replace h7 := (o9 (m + 7) (by omega)).trans h7
      replace h8 := (o9 (m + 8) (by omega)).trans h8
      replace h0 := h9
      replace hfr := hfr.step e9 (by omega) (by omega) o9
      clear e9 h9 o9
      refine AF.aload_n dX9_number_84 rfl ?_
      refine AF.getfield dX9_number_85 fl_X9_28 (by assumption) rfl ?_
      refine AF.iconst (nI 5) dX9_number_88 (by decide) ?_
      refine AF.aload_n dX9_number_89 rfl ?_
      refine AF.getfield dX9_number_90 fl_X9_232 (by assumption) rfl ?_
      rw [e18]
      refine AF.imul dX9_number_93 ?_
      rw [pk_mul]
      refine AF.iload_n dX9_number_94 rfl ?_
      refine AF.iadd dX9_number_95 ?_
      rw [nI_add]
      refine AF.iload_n dX9_number_96 rfl ?_
      refine AF.iastoreF (5 * cm + k) dX9_number_97 h7 (by omega) (by first | rfl | exact nI_1 _ | (simp only [nI_add, pk_mul, nI_1]; exact congrArg nI (by omega)) | simp only [nI_add, pk_mul, nI_1]) (by omega) (by decide) ?_
      intro F e9 h9 o9
      replace h0 := (o9 (m) (by omega)).trans h0
      replace h1 := (o9 (m + 1) (by omega)).trans h1
      replace h2 := (o9 (m + 2) (by omega)).trans h2
      replace h3 := (o9 (m + 3) (by omega)).trans h3
      replace h4 := (o9 (m + 4) (by omega)).trans h4
      replace h5 := (o9 (m + 5) (by omega)).trans h5
      replace h6 := (o9 (m + 6) (by omega)).trans h6
      replace h8 := (o9 (m + 8) (by omega)).trans h8
      replace h7 := h9
      replace hfr := hfr.step e9 (by omega) (by omega) o9
      clear e9 h9 o9
      refine AF.vreturn dX9_number_98 rfl ⟨rfl, ⟨upd g' 19 (bI false), ⟨h0, h1, h2, h3, h4, h5, h6, by rw [← hy]; exact h7, h8⟩, e16, e17, e18, by rw [hw, Bool.not_not]; rfl, fun q hq => by rw [upd_n (by omega)]; exact eg q hq⟩, hfr⟩
    | true =>
      obtain ⟨g', ⟨h0, h1, h2, h3, h4, h5, h6, h7, h8⟩, e16, e17, e18, e19, eg⟩ := hM
      refine AF.putfieldF dX9_number_81 fp_X9_221 h0 (by omega) (Nat.le_of_ble_eq_true rfl) rfl rfl (Or.inr fq_6_19) ?_
      intro F e9 h9 o9
      replace h1 := (o9 (m + 1) (by omega)).trans h1
      replace h2 := (o9 (m + 2) (by omega)).trans h2
      replace h3 := (o9 (m + 3) (by omega)).trans h3
      replace h4 := (o9 (m + 4) (by omega)).trans h4
      replace h5 := (o9 (m + 5) (by omega)).trans h5
      replace h6 := (o9 (m + 6) (by omega)).trans h6
      replace h7 := (o9 (m + 7) (by omega)).trans h7
      replace h8 := (o9 (m + 8) (by omega)).trans h8
      replace h0 := h9
      replace hfr := hfr.step e9 (by omega) (by omega) o9
      clear e9 h9 o9
      refine AF.aload_n dX9_number_84 rfl ?_
      refine AF.getfield dX9_number_85 fl_X9_28 (by assumption) rfl ?_
      refine AF.iconst (nI 5) dX9_number_88 (by decide) ?_
      refine AF.aload_n dX9_number_89 rfl ?_
      refine AF.getfield dX9_number_90 fl_X9_232 (by assumption) rfl ?_
      rw [e18]
      refine AF.imul dX9_number_93 ?_
      rw [pk_mul]
      refine AF.iload_n dX9_number_94 rfl ?_
      refine AF.iadd dX9_number_95 ?_
      rw [nI_add]
      refine AF.iload_n dX9_number_96 rfl ?_
      refine AF.iastoreF (5 * cm + k) dX9_number_97 h7 (by omega) (by first | rfl | exact nI_1 _ | (simp only [nI_add, pk_mul, nI_1]; exact congrArg nI (by omega)) | simp only [nI_add, pk_mul, nI_1]) (by omega) (by decide) ?_
      intro F e9 h9 o9
      replace h0 := (o9 (m) (by omega)).trans h0
      replace h1 := (o9 (m + 1) (by omega)).trans h1
      replace h2 := (o9 (m + 2) (by omega)).trans h2
      replace h3 := (o9 (m + 3) (by omega)).trans h3
      replace h4 := (o9 (m + 4) (by omega)).trans h4
      replace h5 := (o9 (m + 5) (by omega)).trans h5
      replace h6 := (o9 (m + 6) (by omega)).trans h6
      replace h8 := (o9 (m + 8) (by omega)).trans h8
      replace h7 := h9
      replace hfr := hfr.step e9 (by omega) (by omega) o9
      clear e9 h9 o9
      refine AF.vreturn dX9_number_98 rfl ⟨rfl, ⟨upd g' 19 (bI true), ⟨h0, h1, h2, h3, h4, h5, h6, by rw [← hy]; exact h7, h8⟩, e16, e17, e18, by rw [hw, Bool.not_not]; rfl, fun q hq => by rw [upd_n (by omega)]; exact eg q hq⟩, hfr⟩
  have ex0 : ∀ F1, s.1 = false → MT G F1 m g f A T s.1 s.2.1 cm td → Fr m (m + 9) F F1 → AF G mX9_number 1 0 0 (fun r F' => r = .inl none ∧ MT G F' m g f A T (nuR T most s).1 (nuR T most s).2.1 cm (upd td (5 * cm + k) (vlR T most s)) ∧ Fr m (m + 9) F F') F1 5 [some (.ref m), some (.int (nI k)), some (.int (nI most)), some (.int (nI 0)), some (.int (nI 0))] [] := by
    intro F1 hs hM hfr
    have hM0 := hM
    obtain ⟨g', ⟨h0, h1, h2, h3, h4, h5, h6, h7, h8⟩, e16, e17, e18, e19, eg⟩ := hM
    rw [hs] at e19
    refine AF.aload_n dX9_number_5 rfl ?_
    refine AF.getfield dX9_number_6 fl_X9_221 (by assumption) rfl ?_
    rw [e19]
    refine AF.if_ne 63 dX9_number_9 (by decide) (fun hw => ?_) (fun hw => ?_)
    · refine AF.aload_n dX9_number_63 rfl ?_
      refine AF.aload_n dX9_number_64 rfl ?_
      refine AF.getfield dX9_number_65 fl_X9_221 (by assumption) rfl ?_
      rw [e19]
      refine AF.if_ne 76 dX9_number_68 (by decide) (fun hw2 => ?_) (fun hw2 => ?_)
      · refine AF.iconst (nI 1) dX9_number_76 (by decide) ?_
        refine AF.goto 81 dX9_number_77 (by decide) ?_
        exact fin F1 s.1 (nI 0) true _ (by rw [nuR_f hs]; exact hM0) hfr (by rw [vlR, hs]; rfl) (by rw [nuR_f hs]; exact hs)
      · exact absurd hw2 (by decide)
    · exact absurd hw (by decide)
  have loop : s.1 = true → ∀ r i b F1, i + r = most → MT G F1 m g f A T true (s.2.1 + i) cm td → s.2.1 + i ≤ T.length → dgc T most s.2.1 = i + dgc T r (s.2.1 + i) → nvl T most s.2.1 0 = nvl T r (s.2.1 + i) b → Fr m (m + 9) F F1 → AF G mX9_number 1 0 0 (fun r F' => r = .inl none ∧ MT G F' m g f A T (nuR T most s).1 (nuR T most s).2.1 cm (upd td (5 * cm + k) (vlR T most s)) ∧ Fr m (m + 9) F F') F1 5 [some (.ref m), some (.int (nI k)), some (.int (nI most)), some (.int (nI b)), some (.int (nI i))] [] := by
    intro hs r
    have exq : ∀ i b F1, i ≤ most → MT G F1 m g f A T true (s.2.1 + i) cm td → dgc T most s.2.1 = i → nvl T most s.2.1 0 = b → Fr m (m + 9) F F1 → AF G mX9_number 1 0 0 (fun r F' => r = .inl none ∧ MT G F' m g f A T (nuR T most s).1 (nuR T most s).2.1 cm (upd td (5 * cm + k) (vlR T most s)) ∧ Fr m (m + 9) F F') F1 63 [some (.ref m), some (.int (nI k)), some (.int (nI most)), some (.int (nI b)), some (.int (nI i))] [] := by
      intro i b F1 hi hM hd hn hfr
      have hM0 := hM
      obtain ⟨g', ⟨h0, h1, h2, h3, h4, h5, h6, h7, h8⟩, e16, e17, e18, e19, eg⟩ := hM
      refine AF.aload_n dX9_number_63 rfl ?_
      refine AF.aload_n dX9_number_64 rfl ?_
      refine AF.getfield dX9_number_65 fl_X9_221 (by assumption) rfl ?_
      rw [e19]
      refine AF.if_ne 76 dX9_number_68 (by decide) (fun hw => ?_) (fun hw => ?_)
      · exact absurd rfl hw
      · refine AF.iload dX9_number_71 rfl ?_
        by_cases hz : i = 0
        · rw [hz]
          have e9 : nuR T most s = (false, s.2.1, s.2.2) := by unfold nuR; rw [if_neg (by omega)]
          rw [hz] at hM0
          refine AF.if_ne 80 dX9_number_73 (by decide) (fun hw2 => ?_) (fun hw2 => ?_)
          · exact absurd rfl hw2
          · refine AF.iconst (nI 1) dX9_number_76 (by decide) ?_
            refine AF.goto 81 dX9_number_77 (by decide) ?_
            exact fin F1 true (nI b) true _ (by rw [e9]; exact hM0) hfr (by rw [vlR, if_pos hs, hn]) (by rw [e9]; rfl)
        · have e9 : nuR T most s = (true, s.2.1 + i, s.2.2 ++ [nI (nvl T most s.2.1 0)]) := by unfold nuR; rw [if_pos ⟨hs, by omega⟩, hd]
          refine AF.if_ne 80 dX9_number_73 (by decide) (fun hw2 => ?_) (fun hw2 => ?_)
          · refine AF.iconst (nI 0) dX9_number_80 (by decide) ?_
            exact fin F1 true (nI b) false _ (by rw [e9]; exact hM0) hfr (by rw [vlR, if_pos hs, hn]) (by rw [e9]; rfl)
          · exact absurd hw2 (nI_ne0 (by omega) (by omega))
    induction r with
    | zero =>
      intro i b F1 hi hM hpi hd hn hfr
      have hM0 := hM
      obtain ⟨g', ⟨h0, h1, h2, h3, h4, h5, h6, h7, h8⟩, e16, e17, e18, e19, eg⟩ := hM
      refine AF.aload_n dX9_number_5 rfl ?_
      refine AF.getfield dX9_number_6 fl_X9_221 (by assumption) rfl ?_
      rw [e19]
      refine AF.if_ne 63 dX9_number_9 (by decide) (fun hw => ?_) (fun hw => ?_)
      · exact absurd rfl hw
      · refine AF.iload dX9_number_12 rfl ?_
        refine AF.iload_n dX9_number_14 rfl ?_
        refine AF.icmp_ge 63 dX9_number_15 (by decide) (fun hb => ?_) (fun hb => ?_)
        · exact exq i b F1 (by omega) hM0 hd hn hfr
        · exact absurd (by rw [nI_leI (by omega) (by omega)]; omega) hb
    | succ r ih =>
      intro i b F1 hi hM hpi hd hn hfr
      have hM0 := hM
      have hH := X9_here_ok hM hT (by omega) 0 (by omega)
      obtain ⟨g', ⟨h0, h1, h2, h3, h4, h5, h6, h7, h8⟩, e16, e17, e18, e19, eg⟩ := hM
      rw [Nat.add_zero] at hH
      refine AF.aload_n dX9_number_5 rfl ?_
      refine AF.getfield dX9_number_6 fl_X9_221 (by assumption) rfl ?_
      rw [e19]
      refine AF.if_ne 63 dX9_number_9 (by decide) (fun hw => ?_) (fun hw => ?_)
      · exact absurd rfl hw
      · refine AF.iload dX9_number_12 rfl ?_
        refine AF.iload_n dX9_number_14 rfl ?_
        refine AF.icmp_ge 63 dX9_number_15 (by decide) (fun hb => ?_) (fun hb => ?_)
        · rw [nI_leI (by omega) (by omega)] at hb
          omega
        · refine AF.aload_n dX9_number_18 rfl ?_
          refine AF.iconst (nI 0) dX9_number_19 (by decide) ?_
          refine AF.v1 dX9_number_20 kv_X9_225 (hH) (by assumption) rfl rfl rfl (Nat.le_of_ble_eq_true rfl) (by decide) rfl ?_
          refine AF.bipush (48) dX9_number_23 (by decide) ?_
          refine AF.bipush (57) dX9_number_25 (by decide) ?_
          refine AF.s1 dX9_number_27 kv_X9_57 ((X9_in_ok (hereT T (s.2.1 + i)) 48 57)) rfl rfl (Nat.le_of_ble_eq_true rfl) (by decide) rfl ?_
          simp only [dgc] at hd
          simp only [nvl] at hn
          refine AF.if_eq 63 dX9_number_30 (by decide) (fun hc => ?_) (fun hc => ?_)
          · have hc : dgt (hereT T (s.2.1 + i)) = false := bI_z hc
            rw [if_neg (by rw [hc]; decide)] at hd hn
            exact exq i b F1 (by omega) hM0 hd hn hfr
          · have hc : dgt (hereT T (s.2.1 + i)) = true := bI_n hc
            rw [if_pos hc] at hd hn
            obtain ⟨hlt, c, c1, c2, ec⟩ := dgt_here hc
            rw [ec, cl_nI (by omega)] at hn
            refine AF.bipush (nI 10) dX9_number_33 (by decide) ?_
            refine AF.iload_n dX9_number_35 rfl ?_
            refine AF.imul dX9_number_36 ?_
            rw [pk_mul]
            refine AF.aload_n dX9_number_37 rfl ?_
            refine AF.iconst (nI 0) dX9_number_38 (by decide) ?_
            refine AF.v1 dX9_number_39 kv_X9_225 (hH) (by assumption) rfl rfl rfl (Nat.le_of_ble_eq_true rfl) (by decide) rfl ?_
            rw [ec]
            refine AF.iadd dX9_number_42 ?_
            rw [nI_add]
            refine AF.bipush (nI 48) dX9_number_43 (by decide) ?_
            refine AF.isub dX9_number_45 ?_
            rw [pk_sub (by omega), show 10 * b + c - 48 = 10 * b + (c - 48) by omega]
            refine AF.istore_n dX9_number_46 (by decide) ?_
            refine AF.aload_n dX9_number_47 rfl ?_
            refine AF.dup dX9_number_48 rfl ?_
            refine AF.getfield dX9_number_49 fl_X9_211 (by assumption) rfl ?_
            rw [e16]
            refine AF.iconst (nI 1) dX9_number_52 (by decide) ?_
            refine AF.iadd dX9_number_53 ?_
            rw [nI_add]
            refine AF.putfieldF dX9_number_54 fp_X9_211 h0 (by omega) (Nat.le_of_ble_eq_true rfl) rfl rfl (Or.inr fq_6_16) ?_
            intro F e9 h9 o9
            replace h1 := (o9 (m + 1) (by omega)).trans h1
            replace h2 := (o9 (m + 2) (by omega)).trans h2
            replace h3 := (o9 (m + 3) (by omega)).trans h3
            replace h4 := (o9 (m + 4) (by omega)).trans h4
            replace h5 := (o9 (m + 5) (by omega)).trans h5
            replace h6 := (o9 (m + 6) (by omega)).trans h6
            replace h7 := (o9 (m + 7) (by omega)).trans h7
            replace h8 := (o9 (m + 8) (by omega)).trans h8
            replace h0 := h9
            replace hfr := hfr.step e9 (by omega) (by omega) o9
            clear e9 h9 o9
            refine AF.inc1 dX9_number_57 rfl (by decide) ?_
            refine AF.goto 5 dX9_number_60 (by decide) ?_
            exact ih (i + 1) _ F (by omega) ⟨upd g' 16 (nI (s.2.1 + (i + 1))), ⟨h0, h1, h2, h3, h4, h5, h6, h7, h8⟩, rfl, e17, e18, e19, fun q hq => by rw [upd_n (by omega)]; exact eg q hq⟩ (by omega) (by rw [hd, show s.2.1 + i + 1 = s.2.1 + (i + 1) by omega]; omega) (by rw [hn, show s.2.1 + i + 1 = s.2.1 + (i + 1) by omega]) hfr
  refine AF.iconst (nI 0) dX9_number_0 (by decide) ?_
  refine AF.istore_n dX9_number_1 (by decide) ?_
  refine AF.iconst (nI 0) dX9_number_2 (by decide) ?_
  refine AF.istore dX9_number_3 (by decide) ?_
  cases hs : s.1 with
  | false => exact ex0 F hs hM Fr.rf
  | true =>
    rw [hs] at hM
    exact loop hs most 0 0 F (by omega) hM hp (by rw [Nat.zero_add]; rfl) rfl Fr.rf
end

