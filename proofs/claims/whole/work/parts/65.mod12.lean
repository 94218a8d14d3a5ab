/-! The reference: reading a command. -/
def srt (c : Nat) : Nat := [106, 111, 112, 119, 116, 102, 115, 108, 97].getD c 0
def tdA (c : Nat) (ns : List Int32) : List Int32 := if c = 3 then [ns.getD 0 0 * ns.getD 1 0] else ns
def ROq (T : List Int32) (p cm : Nat) (td td' : Nat → Int32) : Prop := (∀ q, q < 5 * cm → td' q = td q) ∧ ((cmS T p).1 = true → td' (5 * cm) = nI (srt (cmC T p)) ∧ ∀ i, i < (tdA (cmC T p) (cmS T p).2.2).length → td' (5 * cm + 1 + i) = (tdA (cmC T p) (cmS T p).2.2).getD i 0)
section
variable {G : GA} {F : AH} {m : Nat} {g f : Nat → Int32} {A : Nat → Nat → Int32} {T : List Int32} {ok : Bool} {p cm : Nat} {td : Nat → Int32} {a v a' v' : Nat} {tx tx' : String}
set_option maxRecDepth 100000 in
theorem X9_one_ok (s : PS) (hM : MT G F m g f A T s.1 s.2.1 cm td) (ha : gN G ≤ m) (hT : TOK T A) (hp : s.2.1 ≤ T.length) (hS : STR G a v tx) (hx : TXok tx) (sort : Int32) (most : Nat) (hm : most ≤ 3) (hcm : cm ≤ 58) : AC G mX9_one 5 0 0 [.ref m, .int sort, .ref a, .int (nI most)] F (fun r F' => r = .inl none ∧ MT G F' m g f A T (nuR T most (saR T tx s tx.toList.length)).1 (nuR T most (saR T tx s tx.toList.length)).2.1 cm (upd (upd td (5 * cm) sort) (5 * cm + 1) (vlR T most (saR T tx s tx.toList.length))) ∧ Fr m (m + 9) F F') := by
  obtain ⟨g', ⟨h0, h1, h2, h3, h4, h5, h6, h7, h8⟩, e16, e17, e18, e19, eg⟩ := hM
  refine AC.of [some (.ref m), some (.int sort), some (.ref a), some (.int (nI most))] rfl (by decide) (Nat.le_of_ble_eq_true rfl) rfl ?_
  have hfr : Fr m (m + 9) F F := Fr.rf
  refine AF.aload_n dX9_one_0 rfl ?_
  refine AF.getfield dX9_one_1 fl_X9_28 (by assumption) rfl ?_
  refine AF.iconst (nI 5) dX9_one_4 (by decide) ?_
  refine AF.aload_n dX9_one_5 rfl ?_
  refine AF.getfield dX9_one_6 fl_X9_232 (by assumption) rfl ?_
  rw [e18]
  refine AF.imul dX9_one_9 ?_
  rw [pk_mul]
  refine AF.iload_n dX9_one_10 rfl ?_
  refine AF.iastoreF (5 * cm) dX9_one_11 h7 (by omega) (by first | rfl | exact nI_1 _ | (simp only [nI_add, pk_mul, nI_1]; exact congrArg nI (by omega)) | simp only [nI_add, pk_mul, nI_1]) (by omega) (by decide) ?_
  intro F e9 h9 o9
  replace h0 := (o9 (m) (by omega)).trans h0
  replace h1 := (o9 (m + 1) (by omega)).trans h1
  replace h2 := (o9 (m + 2) (by omega)).trans h2
  replace h3 := (o9 (m + 3) (by omega)).trans h3
  replace h4 := (o9 (m + 4) (by omega)).trans h4
  replace h5 := (o9 (m + 5) (by omega)).trans h5
  replace h6 := (o9 (m + 6) (by omega)).trans h6
  replace h8 := (o9 (m + 8) (by omega)).trans h8
  replace h7 := h9
  replace hfr := hfr.step e9 (by omega) (by omega) o9
  clear e9 h9 o9
  refine AF.aload_n dX9_one_12 rfl ?_
  refine AF.aload_n dX9_one_13 rfl ?_
  have hM2 : MT G F m g f A T s.1 s.2.1 cm (upd td (5 * cm) sort) := ⟨g', ⟨h0, h1, h2, h3, h4, h5, h6, h7, h8⟩, e16, e17, e18, e19, eg⟩
  refine AF.vw dX9_one_14 kv_X9_235 (X9_says_ok s hM2 ha hT hp hS hx) (by assumption) rfl rfl rfl (Nat.le_of_ble_eq_true rfl) (by decide) rfl (fun E F9 q => nomatch q.1) (fun v F q => ?_)
  obtain ⟨q, hM3, q3⟩ := q
  cases q
  have hM4 := hM3
  obtain ⟨g', ⟨h0, h1, h2, h3, h4, h5, h6, h7, h8⟩, -⟩ := hM3
  refine AF.aload_n dX9_one_17 rfl ?_
  refine AF.iconst (nI 1) dX9_one_18 (by decide) ?_
  refine AF.iload_n dX9_one_19 rfl ?_
  refine AF.vw dX9_one_20 kv_X9_239 (X9_number_ok (saR T tx s tx.toList.length) hM4 ha hT (saR_le hx hp _ (Nat.le_refl _)).1 1 most (by omega) hm hcm) (by assumption) rfl rfl rfl (Nat.le_of_ble_eq_true rfl) (by decide) rfl (fun E F9 q => nomatch q.1) (fun v F q => ?_)
  obtain ⟨q, hM5, q5⟩ := q
  cases q
  exact AF.vreturn dX9_one_23 rfl ⟨rfl, hM5, (hfr.trans q3 (Nat.le_refl _) (Nat.le_refl _)).trans q5 (Nat.le_refl _) (Nat.le_refl _)⟩
set_option maxRecDepth 100000 in
theorem X9_two_ok (s : PS) (hM : MT G F m g f A T s.1 s.2.1 cm td) (ha : gN G ≤ m) (hT : TOK T A) (hp : s.2.1 ≤ T.length) (hS : STR G a v tx) (hx : TXok tx) (hS' : STR G a' v' tx') (hx' : TXok tx') (sort : Int32) (hcm : cm ≤ 58) : AC G mX9_two 6 0 0 [.ref m, .int sort, .ref a, .ref a'] F (fun r F' => r = .inl none ∧ MT G F' m g f A T (nuR T 3 (saR T tx' (nuR T 1 (saR T tx s tx.toList.length)) tx'.toList.length)).1 (nuR T 3 (saR T tx' (nuR T 1 (saR T tx s tx.toList.length)) tx'.toList.length)).2.1 cm (upd (upd (upd td (5 * cm) sort) (5 * cm + 1) (vlR T 1 (saR T tx s tx.toList.length))) (5 * cm + 2) (vlR T 3 (saR T tx' (nuR T 1 (saR T tx s tx.toList.length)) tx'.toList.length))) ∧ Fr m (m + 9) F F') := by
  have hO := X9_one_ok s hM ha hT hp hS hx sort 1 (by omega) hcm
  have hp2 := (nuR_le (k := 1) (saR_le hx hp _ (Nat.le_refl _)).1).1
  obtain ⟨g', ⟨h0, h1, h2, h3, h4, h5, h6, h7, h8⟩, -⟩ := hM
  refine AC.of [some (.ref m), some (.int sort), some (.ref a), some (.ref a')] rfl (by decide) (Nat.le_of_ble_eq_true rfl) rfl ?_
  have hfr : Fr m (m + 9) F F := Fr.rf
  refine AF.aload_n dX9_two_0 rfl ?_
  refine AF.iload_n dX9_two_1 rfl ?_
  refine AF.aload_n dX9_two_2 rfl ?_
  refine AF.iconst (nI 1) dX9_two_3 (by decide) ?_
  refine AF.vw dX9_two_4 kv_X9_242 (hO) (by assumption) rfl rfl rfl (Nat.le_of_ble_eq_true rfl) (by decide) rfl (fun E F9 q => nomatch q.1) (fun v F q => ?_)
  obtain ⟨q, hM2, q2⟩ := q
  cases q
  have hS2 := X9_says_ok _ hM2 ha hT hp2 hS' hx'
  obtain ⟨g', ⟨h0, h1, h2, h3, h4, h5, h6, h7, h8⟩, -⟩ := hM2
  refine AF.aload_n dX9_two_7 rfl ?_
  refine AF.aload_n dX9_two_8 rfl ?_
  refine AF.vw dX9_two_9 kv_X9_235 (hS2) (by assumption) rfl rfl rfl (Nat.le_of_ble_eq_true rfl) (by decide) rfl (fun E F9 q => nomatch q.1) (fun v F q => ?_)
  obtain ⟨q, hM3, q3⟩ := q
  cases q
  have hN := X9_number_ok _ hM3 ha hT (saR_le hx' hp2 _ (Nat.le_refl _)).1 2 3 (by omega) (by omega) hcm
  obtain ⟨g', ⟨h0, h1, h2, h3, h4, h5, h6, h7, h8⟩, -⟩ := hM3
  refine AF.aload_n dX9_two_12 rfl ?_
  refine AF.iconst (nI 2) dX9_two_13 (by decide) ?_
  refine AF.iconst (nI 3) dX9_two_14 (by decide) ?_
  refine AF.vw dX9_two_15 kv_X9_239 (hN) (by assumption) rfl rfl rfl (Nat.le_of_ble_eq_true rfl) (by decide) rfl (fun E F9 q => nomatch q.1) (fun v F q => ?_)
  obtain ⟨q, hM5, q5⟩ := q
  cases q
  exact AF.vreturn dX9_two_18 rfl ⟨rfl, hM5, ((hfr.trans q2 (Nat.le_refl _) (Nat.le_refl _)).trans q3 (Nat.le_refl _) (Nat.le_refl _)).trans q5 (Nat.le_refl _) (Nat.le_refl _)⟩
set_option maxRecDepth 100000 in
set_option maxHeartbeats 4000000 in
theorem X9_breeze_ok {F0 : AH} (hM : MT G F0 m g f A T true p cm td) (ha : gN G ≤ m) (hT : TOK T A) (hp : p ≤ T.length) (hcm : cm ≤ 58) : AC G mX9_breeze 5 0 0 [.ref m] F0 (fun r F' => r = .inl none ∧ (∃ td', MT G F' m g f A T (prC T p 3).1 (prC T p 3).2.1 cm td' ∧ (∀ q, q < 5 * cm → td' q = td q) ∧ ((prC T p 3).1 = true → td' (5 * cm) = nI 119 ∧ td' (5 * cm + 1) = (prC T p 3).2.2.getD 0 0 * (prC T p 3).2.2.getD 1 0)) ∧ Fr m (m + 9) F0 F') := by
  have h60 := hT.1
  have hx : TXok "wind " := by unfold TXok; decide +kernel
  rw [prC_3]
  obtain ⟨g', ⟨h0, h1, h2, h3, h4, h5, h6, h7, h8⟩, e16, e17, e18, e19, eg⟩ := hM
  refine AC.of [some (.ref m), none] rfl (by decide) (Nat.le_of_ble_eq_true rfl) rfl ?_
  have hfr : Fr m (m + 9) F0 F0 := Fr.rf
  refine AF.aload_n dX9_breeze_0 rfl ?_
  refine AF.getfield dX9_breeze_1 fl_X9_28 (by assumption) rfl ?_
  refine AF.iconst (nI 5) dX9_breeze_4 (by decide) ?_
  refine AF.aload_n dX9_breeze_5 rfl ?_
  refine AF.getfield dX9_breeze_6 fl_X9_232 (by assumption) rfl ?_
  rw [e18]
  refine AF.imul dX9_breeze_9 ?_
  rw [pk_mul]
  refine AF.bipush (nI 119) dX9_breeze_10 (by decide) ?_
  refine AF.iastoreF (5 * cm) dX9_breeze_12 h7 (by omega) (by first | rfl | exact nI_1 _ | (simp only [nI_add, pk_mul, nI_1]; exact congrArg nI (by omega)) | simp only [nI_add, pk_mul, nI_1]) (by omega) (by decide) ?_
  intro F e9 h9 o9
  replace h0 := (o9 (m) (by omega)).trans h0
  replace h1 := (o9 (m + 1) (by omega)).trans h1
  replace h2 := (o9 (m + 2) (by omega)).trans h2
  replace h3 := (o9 (m + 3) (by omega)).trans h3
  replace h4 := (o9 (m + 4) (by omega)).trans h4
  replace h5 := (o9 (m + 5) (by omega)).trans h5
  replace h6 := (o9 (m + 6) (by omega)).trans h6
  replace h8 := (o9 (m + 8) (by omega)).trans h8
  replace h7 := h9
  replace hfr := hfr.step e9 (by omega) (by omega) o9
  clear e9 h9 o9
  refine AF.aload_n dX9_breeze_13 rfl ?_
  have hM2 : MT G F m g f A T true p cm (upd td (5 * cm) (nI 119)) := ⟨g', ⟨h0, h1, h2, h3, h4, h5, h6, h7, h8⟩, e16, e17, e18, e19, eg⟩
  refine AF.ldcS dX9_breeze_14 st_X9_246 (fun a1 v1 s1 => ?_)
  refine AF.vw dX9_breeze_16 kv_X9_235 (X9_says_ok (true, p, []) hM2 ha hT hp s1 hx) (by assumption) rfl rfl rfl (Nat.le_of_ble_eq_true rfl) (by decide) rfl (fun E F9 q => nomatch q.1) (fun v F q => ?_)
  obtain ⟨q, hM3, q3⟩ := q
  cases q
  have hs5 := saR_le (T := T) hx (s := (true, p, [])) hp 5 (Nat.le_refl _)
  have hsn := saR_ok (T := T) (tx := "wind ") (s := (true, p, [])) 5
  change MT G F m g f A T (saR T "wind " (true, p, []) 5).1 (saR T "wind " (true, p, []) 5).2.1 cm (upd td (5 * cm) (nI 119)) at hM3
  replace hfr := hfr.trans q3 (Nat.le_refl _) (Nat.le_refl _)
  clear hM2 q3
  generalize saR T "wind " (true, p, []) 5 = s at hM3 hs5 hsn ⊢
  have hH := X9_here_ok hM3 hT (by omega) 0 (by omega)
  rw [Nat.add_zero] at hH
  -- the number, then the sign
  have last : ∀ F1 (s' : PS) b, s' = sgR T s → (s'.1 = true → s'.2.2 = [if b = true then -1 else 1]) → MT G F1 m g f A T s'.1 s'.2.1 cm (upd td (5 * cm) (nI 119)) → Fr m (m + 9) F0 F1 → AF G mX9_breeze 5 0 0 (fun r F' => r = .inl none ∧ (∃ td', MT G F' m g f A T (nuR T 1 (sgR T s)).1 (nuR T 1 (sgR T s)).2.1 cm td' ∧ (∀ q, q < 5 * cm → td' q = td q) ∧ ((nuR T 1 (sgR T s)).1 = true → td' (5 * cm) = nI 119 ∧ td' (5 * cm + 1) = (nuR T 1 (sgR T s)).2.2.getD 0 0 * (nuR T 1 (sgR T s)).2.2.getD 1 0)) ∧ Fr m (m + 9) F0 F') F1 86 [some (.ref m), some (.int (bI b))] [] := by
    intro F1 s' b es hb hM hfr
    rw [← es]
    have hsl := sgR_le (T := T) (s := s) hs5.1
    rw [← es] at hsl
    have hN := X9_number_ok s' hM ha hT hsl.1 1 1 (by omega) (by omega) hcm
    obtain ⟨g', ⟨h0, h1, h2, h3, h4, h5, h6, h7, h8⟩, e16, e17, e18, e19, eg⟩ := hM
    refine AF.aload_n dX9_breeze_86 rfl ?_
    refine AF.iconst (nI 1) dX9_breeze_87 (by decide) ?_
    refine AF.iconst (nI 1) dX9_breeze_88 (by decide) ?_
    refine AF.vw dX9_breeze_89 kv_X9_239 (hN) (by assumption) rfl rfl rfl (Nat.le_of_ble_eq_true rfl) (by decide) rfl (fun E F9 q => nomatch q.1) (fun v F q => ?_)
    obtain ⟨q, hM4, q4⟩ := q
    cases q
    replace hfr := hfr.trans q4 (Nat.le_refl _) (Nat.le_refl _)
    have hv := nuR_ok (T := T) (most := 1) (s := s')
    refine AF.iload_n dX9_breeze_92 rfl ?_
    cases b with
    | false =>
      refine AF.if_eq 123 dX9_breeze_93 (by decide) (fun hb2 => ?_) (fun hb2 => ?_)
      · refine AF.vreturn dX9_breeze_123 rfl ⟨rfl, ⟨_, hM4, fun q hq => by rw [upd_n (by omega), upd_n (by omega)], fun ho => ?_⟩, hfr⟩
        obtain ⟨o1, o2⟩ := hv ho
        rw [o2, hb o1, upd_n (by omega), upd_s, upd_s]
        exact ⟨rfl, (Int32.one_mul _).symm⟩
      · exact absurd rfl hb2
    | true =>
      have hM5 := hM4
      obtain ⟨g', ⟨h0, h1, h2, h3, h4, h5, h6, h7, h8⟩, e16, e17, e18, e19, eg⟩ := hM4
      refine AF.if_eq 123 dX9_breeze_93 (by decide) (fun hb2 => ?_) (fun hb2 => ?_)
      · exact absurd (show bI true = 0 from hb2) (by decide)
      · refine AF.aload_n dX9_breeze_96 rfl ?_
        refine AF.getfield dX9_breeze_97 fl_X9_28 (by assumption) rfl ?_
        refine AF.iconst (nI 5) dX9_breeze_100 (by decide) ?_
        refine AF.aload_n dX9_breeze_101 rfl ?_
        refine AF.getfield dX9_breeze_102 fl_X9_232 (by assumption) rfl ?_
        rw [e18]
        refine AF.imul dX9_breeze_105 ?_
        rw [pk_mul]
        refine AF.iconst (nI 1) dX9_breeze_106 (by decide) ?_
        refine AF.iadd dX9_breeze_107 ?_
        rw [nI_add]
        refine AF.aload_n dX9_breeze_108 rfl ?_
        refine AF.getfield dX9_breeze_109 fl_X9_28 (by assumption) rfl ?_
        refine AF.iconst (nI 5) dX9_breeze_112 (by decide) ?_
        refine AF.aload_n dX9_breeze_113 rfl ?_
        refine AF.getfield dX9_breeze_114 fl_X9_232 (by assumption) rfl ?_
        rw [e18]
        refine AF.imul dX9_breeze_117 ?_
        rw [pk_mul]
        refine AF.iconst (nI 1) dX9_breeze_118 (by decide) ?_
        refine AF.iadd dX9_breeze_119 ?_
        rw [nI_add]
        refine AF.iaload (5 * cm + 1) dX9_breeze_120 (by assumption) (by first | rfl | exact nI_1 _ | (simp only [nI_add, pk_mul, nI_1]; exact congrArg nI (by omega)) | simp only [nI_add, pk_mul, nI_1]) (by omega) (by decide) ?_
        refine AF.ineg dX9_breeze_121 ?_
        refine AF.iastoreF (5 * cm + 1) dX9_breeze_122 h7 (by omega) (by first | rfl | exact nI_1 _ | (simp only [nI_add, pk_mul, nI_1]; exact congrArg nI (by omega)) | simp only [nI_add, pk_mul, nI_1]) (by omega) (by decide) ?_
        intro F e9 h9 o9
        replace h0 := (o9 (m) (by omega)).trans h0
        replace h1 := (o9 (m + 1) (by omega)).trans h1
        replace h2 := (o9 (m + 2) (by omega)).trans h2
        replace h3 := (o9 (m + 3) (by omega)).trans h3
        replace h4 := (o9 (m + 4) (by omega)).trans h4
        replace h5 := (o9 (m + 5) (by omega)).trans h5
        replace h6 := (o9 (m + 6) (by omega)).trans h6
        replace h8 := (o9 (m + 8) (by omega)).trans h8
        replace h7 := h9
        replace hfr := hfr.step e9 (by omega) (by omega) o9
        clear e9 h9 o9
        refine AF.vreturn dX9_breeze_123 rfl ⟨rfl, ⟨upd (upd (upd td (5 * cm) (nI 119)) (5 * cm + 1) (vlR T 1 s')) (5 * cm + 1) (-(vlR T 1 s')), ⟨g', ⟨h0, h1, h2, h3, h4, h5, h6, ?_, h8⟩, e16, e17, e18, e19, eg⟩, fun q hq => by rw [upd_n (by omega), upd_n (by omega), upd_n (by omega)], fun ho => ?_⟩, hfr⟩
        · rw [show uA A 6 (upd (upd td (5 * cm) (nI 119)) (5 * cm + 1) (vlR T 1 s')) 6 (5 * cm + 1) = vlR T 1 s' from upd_s] at h7
          exact h7
        · obtain ⟨o1, o2⟩ := hv ho
          rw [o2, hb o1, upd_n (by omega), upd_n (by omega), upd_s, upd_s]
          refine ⟨rfl, ?_⟩
          show -(vlR T 1 s') = (-1) * (vlR T 1 s')
          rw [Int32.neg_mul, Int32.one_mul]
  obtain ⟨g', ⟨h0, h1, h2, h3, h4, h5, h6, h7, h8⟩, e16, e17, e18, e19, eg⟩ := hM3
  refine AF.aload_n dX9_breeze_19 rfl ?_
  refine AF.iconst (nI 0) dX9_breeze_20 (by decide) ?_
  refine AF.v1 dX9_breeze_21 kv_X9_225 (hH) (by assumption) rfl rfl rfl (Nat.le_of_ble_eq_true rfl) (by decide) rfl ?_
  refine AF.bipush (nI 45) dX9_breeze_24 (by decide) ?_
  -- what follows, by what was found
  have mid : ∀ F1 b w, MA G F1 m g' f (uA A 6 (upd td (5 * cm) (nI 119))) → Fr m (m + 9) F0 F1 → sgR T s = (if w = true then (false, s.2.1, s.2.2) else (true, s.2.1 + 1, s.2.2 ++ [if b = true then -1 else 1])) → (w = false → s.1 = true) → AF G mX9_breeze 5 0 0 (fun r F' => r = .inl none ∧ (∃ td', MT G F' m g f A T (nuR T 1 (sgR T s)).1 (nuR T 1 (sgR T s)).2.1 cm td' ∧ (∀ q, q < 5 * cm → td' q = td q) ∧ ((nuR T 1 (sgR T s)).1 = true → td' (5 * cm) = nI 119 ∧ td' (5 * cm + 1) = (nuR T 1 (sgR T s)).2.2.getD 0 0 * (nuR T 1 (sgR T s)).2.2.getD 1 0)) ∧ Fr m (m + 9) F0 F') F1 62 [some (.ref m), some (.int (bI b))] [.int (bI w), .ref m] := by
    intro F1 b w hA hfr hsg hw
    obtain ⟨h0, h1, h2, h3, h4, h5, h6, h7, h8⟩ := hA
    cases w with
    | true =>
      refine AF.putfieldF dX9_breeze_62 fp_X9_221 h0 (by omega) (Nat.le_of_ble_eq_true rfl) rfl rfl (Or.inr fq_6_19) ?_
      intro F e9 h9 o9
      replace h1 := (o9 (m + 1) (by omega)).trans h1
      replace h2 := (o9 (m + 2) (by omega)).trans h2
      replace h3 := (o9 (m + 3) (by omega)).trans h3
      replace h4 := (o9 (m + 4) (by omega)).trans h4
      replace h5 := (o9 (m + 5) (by omega)).trans h5
      replace h6 := (o9 (m + 6) (by omega)).trans h6
      replace h7 := (o9 (m + 7) (by omega)).trans h7
      replace h8 := (o9 (m + 8) (by omega)).trans h8
      replace h0 := h9
      replace hfr := hfr.step e9 (by omega) (by omega) o9
      clear e9 h9 o9
      refine AF.aload_n dX9_breeze_65 rfl ?_
      refine AF.dup dX9_breeze_66 rfl ?_
      refine AF.getfield dX9_breeze_67 fl_X9_211 (by assumption) rfl ?_
      rw [e16]
      refine AF.aload_n dX9_breeze_70 rfl ?_
      refine AF.getfield dX9_breeze_71 fl_X9_221 (by assumption) rfl ?_
      refine AF.if_eq 81 dX9_breeze_74 (by decide) (fun hz => ?_) (fun hz => ?_)
      · exact absurd (show bI true = 0 from hz) (by decide)
      · refine AF.iconst (nI 0) dX9_breeze_77 (by decide) ?_
        refine AF.goto 82 dX9_breeze_78 (by decide) ?_
        refine AF.iadd dX9_breeze_82 ?_
        rw [nI_add]
        refine AF.putfieldF dX9_breeze_83 fp_X9_211 h0 (by omega) (Nat.le_of_ble_eq_true rfl) rfl rfl (Or.inr fq_6_16) ?_
        intro F e9 h9 o9
        replace h1 := (o9 (m + 1) (by omega)).trans h1
        replace h2 := (o9 (m + 2) (by omega)).trans h2
        replace h3 := (o9 (m + 3) (by omega)).trans h3
        replace h4 := (o9 (m + 4) (by omega)).trans h4
        replace h5 := (o9 (m + 5) (by omega)).trans h5
        replace h6 := (o9 (m + 6) (by omega)).trans h6
        replace h7 := (o9 (m + 7) (by omega)).trans h7
        replace h8 := (o9 (m + 8) (by omega)).trans h8
        replace h0 := h9
        replace hfr := hfr.step e9 (by omega) (by omega) o9
        clear e9 h9 o9
        refine last F (false, s.2.1, s.2.2) b (by rw [hsg]; rfl) (fun h => by cases h) ⟨upd (upd g' 19 (bI true)) 16 (nI (s.2.1 + 0)), ⟨h0, h1, h2, h3, h4, h5, h6, h7, h8⟩, rfl, e17, e18, rfl, fun q hq => by rw [upd_n (by omega), upd_n (by omega)]; exact eg q hq⟩ hfr
    | false =>
      refine AF.putfieldF dX9_breeze_62 fp_X9_221 h0 (by omega) (Nat.le_of_ble_eq_true rfl) rfl rfl (Or.inr fq_6_19) ?_
      intro F e9 h9 o9
      replace h1 := (o9 (m + 1) (by omega)).trans h1
      replace h2 := (o9 (m + 2) (by omega)).trans h2
      replace h3 := (o9 (m + 3) (by omega)).trans h3
      replace h4 := (o9 (m + 4) (by omega)).trans h4
      replace h5 := (o9 (m + 5) (by omega)).trans h5
      replace h6 := (o9 (m + 6) (by omega)).trans h6
      replace h7 := (o9 (m + 7) (by omega)).trans h7
      replace h8 := (o9 (m + 8) (by omega)).trans h8
      replace h0 := h9
      replace hfr := hfr.step e9 (by omega) (by omega) o9
      clear e9 h9 o9
      refine AF.aload_n dX9_breeze_65 rfl ?_
      refine AF.dup dX9_breeze_66 rfl ?_
      refine AF.getfield dX9_breeze_67 fl_X9_211 (by assumption) rfl ?_
      rw [e16]
      refine AF.aload_n dX9_breeze_70 rfl ?_
      refine AF.getfield dX9_breeze_71 fl_X9_221 (by assumption) rfl ?_
      refine AF.if_eq 81 dX9_breeze_74 (by decide) (fun hz => ?_) (fun hz => ?_)
      · refine AF.iconst (nI 1) dX9_breeze_81 (by decide) ?_
        refine AF.iadd dX9_breeze_82 ?_
        rw [nI_add]
        refine AF.putfieldF dX9_breeze_83 fp_X9_211 h0 (by omega) (Nat.le_of_ble_eq_true rfl) rfl rfl (Or.inr fq_6_16) ?_
        intro F e9 h9 o9
        replace h1 := (o9 (m + 1) (by omega)).trans h1
        replace h2 := (o9 (m + 2) (by omega)).trans h2
        replace h3 := (o9 (m + 3) (by omega)).trans h3
        replace h4 := (o9 (m + 4) (by omega)).trans h4
        replace h5 := (o9 (m + 5) (by omega)).trans h5
        replace h6 := (o9 (m + 6) (by omega)).trans h6
        replace h7 := (o9 (m + 7) (by omega)).trans h7
        replace h8 := (o9 (m + 8) (by omega)).trans h8
        replace h0 := h9
        replace hfr := hfr.step e9 (by omega) (by omega) o9
        clear e9 h9 o9
        refine last F (true, s.2.1 + 1, s.2.2 ++ [if b = true then -1 else 1]) b (by rw [hsg]; rfl) (fun _ => by rw [(hsn (hw rfl)).2]; rfl) ⟨upd (upd g' 19 (bI false)) 16 (nI (s.2.1 + 1)), ⟨h0, h1, h2, h3, h4, h5, h6, h7, h8⟩, rfl, e17, e18, rfl, fun q hq => by rw [upd_n (by omega), upd_n (by omega)]; exact eg q hq⟩ hfr
      · exact absurd rfl hz
  have hMA : MA G F m g' f (uA A 6 (upd td (5 * cm) (nI 119))) := ⟨h0, h1, h2, h3, h4, h5, h6, h7, h8⟩
  have hsx : s.1 = false → sgR T s = (false, s.2.1, s.2.2) := fun h => by unfold sgR; rw [if_neg (fun q => by rw [h] at q; cases q.1), if_neg (fun q => by rw [h] at q; cases q.1)]
  refine AF.icmp_ne 33 dX9_breeze_26 (by decide) (fun hc => ?_) (fun hc => ?_)
  · refine AF.iconst (nI 0) dX9_breeze_33 (by decide) ?_
    refine AF.istore_n dX9_breeze_34 (by decide) ?_
    refine AF.aload_n dX9_breeze_35 rfl ?_
    refine AF.aload_n dX9_breeze_36 rfl ?_
    refine AF.getfield dX9_breeze_37 fl_X9_221 (by assumption) rfl ?_
    rw [e19]
    refine AF.if_ne 57 dX9_breeze_40 (by decide) (fun hw => ?_) (fun hw => ?_)
    · have hw : s.1 = false := by simpa using bI_n hw
      refine AF.iconst (1) dX9_breeze_57 (by decide) ?_
      refine AF.goto 62 dX9_breeze_58 (by decide) ?_
      exact mid F false true hMA hfr (hsx hw) (fun h => by cases h)
    · have hw : s.1 = true := by simpa using bI_z hw
      refine AF.iload_n dX9_breeze_43 rfl ?_
      refine AF.if_ne 61 dX9_breeze_44 (by decide) (fun hw2 => ?_) (fun hw2 => ?_)
      · exact absurd rfl hw2
      · refine AF.aload_n dX9_breeze_47 rfl ?_
        refine AF.iconst (nI 0) dX9_breeze_48 (by decide) ?_
        refine AF.v1 dX9_breeze_49 kv_X9_225 (hH) (by assumption) rfl rfl rfl (Nat.le_of_ble_eq_true rfl) (by decide) rfl ?_
        refine AF.bipush (nI 43) dX9_breeze_52 (by decide) ?_
        refine AF.icmp_eq 61 dX9_breeze_54 (by decide) (fun hc2 => ?_) (fun hc2 => ?_)
        · refine AF.iconst (0) dX9_breeze_61 (by decide) ?_
          refine mid F false false hMA hfr ?_ (fun _ => hw)
          unfold sgR
          rw [if_pos ⟨hw, hc2⟩]; rfl
        · refine AF.iconst (1) dX9_breeze_57 (by decide) ?_
          refine AF.goto 62 dX9_breeze_58 (by decide) ?_
          refine mid F false true hMA hfr ?_ (fun h => by cases h)
          unfold sgR
          rw [if_neg (fun q => hc2 q.2), if_neg (fun q => hc q.2)]; rfl
  · refine AF.iconst (nI 1) dX9_breeze_29 (by decide) ?_
    refine AF.goto 34 dX9_breeze_30 (by decide) ?_
    refine AF.istore_n dX9_breeze_34 (by decide) ?_
    refine AF.aload_n dX9_breeze_35 rfl ?_
    refine AF.aload_n dX9_breeze_36 rfl ?_
    refine AF.getfield dX9_breeze_37 fl_X9_221 (by assumption) rfl ?_
    rw [e19]
    refine AF.if_ne 57 dX9_breeze_40 (by decide) (fun hw => ?_) (fun hw => ?_)
    · have hw : s.1 = false := by simpa using bI_n hw
      refine AF.iconst (1) dX9_breeze_57 (by decide) ?_
      refine AF.goto 62 dX9_breeze_58 (by decide) ?_
      exact mid F true true hMA hfr (hsx hw) (fun h => by cases h)
    · have hw : s.1 = true := by simpa using bI_z hw
      refine AF.iload_n dX9_breeze_43 rfl ?_
      refine AF.if_ne 61 dX9_breeze_44 (by decide) (fun hw2 => ?_) (fun hw2 => ?_)
      · refine AF.iconst (0) dX9_breeze_61 (by decide) ?_
        refine mid F true false hMA hfr ?_ (fun _ => hw)
        unfold sgR
        rw [if_neg (fun q => by have q2 := q.2; rw [show hereT T s.2.1 = 45 from hc] at q2; exact absurd q2 (by decide)), if_pos ⟨hw, hc⟩]; rfl
      · exact absurd (show nI 1 = 0 from hw2) (by decide)
end

