/-! The stage: many beats, forecasts, commands. -/
/-- n beats, and how many entries they end -/
def nxN (σ : Sg) : Nat → Sg
  | 0 => σ
  | n + 1 => nxB (nxN σ n)
def nxF (σ : Sg) (n : Nat) : Nat := sumN (fun i => nxE (nxN σ i)) n
theorem nxN_J {σ : Sg} : ∀ n, (nxN σ n).J.length = σ.J.length
  | 0 => rfl
  | n + 1 => by show (nxJ _).length = _; rw [nxJ_len]; exact nxN_J n
theorem SI_nxN {σ : Sg} {B : Nat} (h : SI σ B) (h10 : σ.J.length ≤ 10) : ∀ n, B + n ≤ 2 ^ 21 → SI (nxN σ n) (B + n)
  | 0, _ => h
  | n + 1, hn => SI_nx (SI_nxN h h10 n (by omega)) (show B + n < 2 ^ 21 by omega) (by rw [nxN_J]; exact h10)
theorem nxE_le {σ : Sg} : nxE σ ≤ σ.E.length := Nat.sub_le _ _
theorem nxN_E {σ : Sg} : ∀ n, (nxN σ n).E.length ≤ σ.E.length
  | 0 => Nat.le_refl _
  | n + 1 => Nat.le_trans kpE_le (nxN_E n)
theorem nxF_le {σ : Sg} : ∀ n, nxF σ n ≤ σ.E.length * n
  | 0 => Nat.le_refl _
  | n + 1 => by
    have h1 := nxF_le (σ := σ) n
    have h2 := Nat.le_trans (nxE_le (σ := nxN σ n)) (nxN_E n)
    show nxF σ n + nxE (nxN σ n) ≤ _
    rw [Nat.mul_succ]; omega
/-- the beats until an entry ends, at least one -/
def bte (σ : Sg) (e : Nat) : Nat := (en σ.E e).2 + fln (fg σ.Fg (en σ.E e).1) - σ.bt
def mx1 (g : Nat → Nat) : Nat → Nat
  | 0 => 1
  | n + 1 => if mx1 g n < g n then g n else mx1 g n
def btq (σ : Sg) : Nat := if σ.E.length = 0 then 0 else mx1 (bte σ) σ.E.length
theorem mx1_le {g : Nat → Nat} {b : Nat} (hb : 1 ≤ b) : ∀ n, (∀ j, j < n → g j ≤ b) → 1 ≤ mx1 g n ∧ mx1 g n ≤ b
  | 0, _ => ⟨Nat.le_refl _, hb⟩
  | n + 1, h => by
    simp only [mx1]
    have := mx1_le hb n (fun j hj => h j (by omega))
    have := h n (by omega)
    split <;> omega
theorem max_sub {r t b : Nat} (hr : 1 ≤ r) (hr2 : r < 2 ^ 30) (ht : t < 2 ^ 30) (hb : b < 2 ^ 30) : (if nI r < nI t - nI b then nI t - nI b else nI r) = nI (if r < t - b then t - b else r) := by
  by_cases h : b ≤ t
  · rw [pk_sub h]
    by_cases q : r < t - b
    · rw [if_pos q, if_pos ((nI_ltI (by omega) (by omega)).mpr q)]
    · rw [if_neg q, if_neg (fun z => q ((nI_ltI (by omega) (by omega)).mp z))]
  · rw [if_neg, if_neg (by omega)]
    rw [Int32.lt_iff_toInt_lt, pk_sub_toInt ht hb, nI_toInt (by omega)]
    omega
/-- the last step for a jet that will have happened: its beat, its opening; over the first k steps of an entry, the first e entries -/
def lsK (L : List Sp) (st x last : Nat) (q : Nat × Nat) : Nat → Nat × Nat
  | 0 => q
  | k + 1 => if (g3 L k).2.1 = x ∧ (lsK L st x last q k).1 ≤ st + (g3 L k).1 ∧ st + (g3 L k).1 ≤ last then (st + (g3 L k).1, (g3 L k).2.2) else lsK L st x last q k
def lsE (Fg : List (List Sp)) (E : List En) (x last : Nat) (q : Nat × Nat) : Nat → Nat × Nat
  | 0 => q
  | e + 1 => lsK (fg Fg (en E e).1) (en E e).2 x last (lsE Fg E x last q e) (fg Fg (en E e).1).length
def lsO (σ : Sg) (x last : Nat) : Nat := (lsE σ.Fg σ.E x last (σ.bt + 1, jo σ.J x) σ.E.length).2
def lsD (σ : Sg) (n : Nat) : Nat := sumN (fun j => lsO σ j (σ.bt + n)) σ.J.length
theorem lsK_le {L : List Sp} {st x last : Nat} {q : Nat × Nat} {b : Nat} (hq : q.1 ≤ b ∧ q.2 ≤ 10) (hb : last ≤ b) : ∀ k, k ≤ L.length → (∀ k, k < L.length → (g3 L k).2.2 ≤ 10) → (lsK L st x last q k).1 ≤ b ∧ (lsK L st x last q k).2 ≤ 10
  | 0, _, _ => hq
  | k + 1, hk, h => by
    simp only [lsK]
    split
    · rename_i z; exact ⟨by dsimp only; omega, h k (by omega)⟩
    · exact lsK_le hq hb k (by omega) h
theorem lsE_le {Fg : List (List Sp)} {E : List En} {x last n : Nat} {q : Nat × Nat} {b : Nat} (hq : q.1 ≤ b ∧ q.2 ≤ 10) (hb : last ≤ b) (hF : FI Fg n) : ∀ e, (lsE Fg E x last q e).1 ≤ b ∧ (lsE Fg E x last q e).2 ≤ 10
  | 0 => hq
  | e + 1 => lsK_le (lsE_le hq hb hF e) hb _ (Nat.le_refl _) (fun k hk => (hF _ k hk).2.2)
theorem lsO_le {σ : Sg} {B x last : Nat} (hI : SI σ B) : lsO σ x last ≤ 10 := (lsE_le (E := σ.E) (x := x) (last := last) (q := (σ.bt + 1, jo σ.J x)) (b := σ.bt + 1 + last) ⟨by dsimp only; omega, (hI.1 x).2⟩ (by omega) hI.2.2.1 σ.E.length).2
section
variable {G : GA} {F : AH} {b : Nat} {σ : Sg}
set_option maxRecDepth 100000 in
theorem X7_passBeats_ok (hS : SA G F b σ) (ha : gN G ≤ b) {B : Nat} (hI : SI σ B) (n : Nat) (hB : B + n ≤ 2 ^ 21) : AC G mX7_passBeats 3 0 0 [.ref b, .int (nI n)] F (SW G b (nxN σ n) (some (.int (nI (nxF σ n)))) F) := by
  have h10 : σ.J.length ≤ 10 := hS.choose_spec.choose_spec.2.2.1.choose_spec.choose_spec.2.1
  refine AC.of [some (.ref b), some (.int (nI n)), none, none] rfl (by decide) (Nat.le_of_ble_eq_true rfl) rfl ?_
  have loop : ∀ k j F1, j + k = n → SA G F1 b (nxN σ j) → Fr b (b + 11) F F1 → AF G mX7_passBeats 3 0 0 (SW G b (nxN σ n) (some (.int (nI (nxF σ n)))) F) F1 4 [some (.ref b), some (.int (nI n)), some (.int (nI (nxF σ j))), some (.int (nI j))] [] := by
    intro k
    induction k with
    | zero =>
      intro j F hj hS hfr
      refine AF.iload_n dX7_passBeats_4 rfl ?_
      refine AF.iload_n dX7_passBeats_5 rfl ?_
      refine AF.icmp_ge 22 dX7_passBeats_6 (by decide) (fun hb => ?_) (fun hb => ?_)
      · refine AF.iload_n dX7_passBeats_22 rfl ?_
        rw [show j = n by omega] at hS ⊢
        exact AF.ireturn dX7_passBeats_23 rfl ⟨rfl, hS, hfr⟩
      · exact absurd (by rw [nI_leI (by omega) (by omega)]; omega) hb
    | succ k ih =>
      intro j F hj hS hfr
      have hP := X7_passOneBeat_ok hS ha (SI_nxN hI h10 j (by omega)) (by omega)
      obtain ⟨ef, es, ⟨s0, s9, s10⟩, hE, hJ, hG⟩ := id hS
      refine AF.iload_n dX7_passBeats_4 rfl ?_
      refine AF.iload_n dX7_passBeats_5 rfl ?_
      refine AF.icmp_ge 22 dX7_passBeats_6 (by decide) (fun hb => ?_) (fun hb => ?_)
      · rw [nI_leI (by omega) (by omega)] at hb
        omega
      · refine AF.iload_n dX7_passBeats_9 rfl ?_
        refine AF.aload_n dX7_passBeats_10 rfl ?_
        refine AF.vw dX7_passBeats_11 kv_X7_96 (hP) (by assumption) rfl rfl rfl (Nat.le_of_ble_eq_true rfl) (by decide) rfl (fun E F9 q => nomatch q.1) (fun v F q => ?_)
        obtain ⟨q, hS, q2⟩ := q
        cases q
        refine AF.iadd dX7_passBeats_14 ?_
        rw [nI_add]
        refine AF.istore_n dX7_passBeats_15 (by decide) ?_
        refine AF.inc1 dX7_passBeats_16 rfl (by decide) ?_
        refine AF.goto 4 dX7_passBeats_19 (by decide) ?_
        exact ih (j + 1) F (by omega) hS (hfr.trans q2 (Nat.le_refl _) (Nat.le_refl _))
  refine AF.iconst (0) dX7_passBeats_0 (by decide) ?_
  refine AF.istore_n dX7_passBeats_1 (by decide) ?_
  refine AF.iconst (0) dX7_passBeats_2 (by decide) ?_
  refine AF.istore_n dX7_passBeats_3 (by decide) ?_
  exact loop n 0 F (by omega) hS Fr.rf
set_option maxRecDepth 100000 in
theorem X7_beatsToEmptyQueue_ok (hS : SA G F b σ) {B : Nat} (hI : SI σ B) : AC G mX7_beatsToEmptyQueue 1 0 0 [.ref b] F (AV (some (.int (nI (btq σ)))) F) := by
  obtain ⟨ef, es, ⟨s0, s9, s10⟩, hE, hJ, hG⟩ := hS
  have h6 := hE.1
  obtain ⟨-, i2, i3, i4, i5, i6, i7, i8⟩ := hI
  obtain ⟨-, -, -, -, ⟨g0, -⟩, -⟩ := id hG
  have hbb : ∀ e, e < σ.E.length → (en σ.E e).2 + fln (fg σ.Fg (en σ.E e).1) ≤ B + 50 := fun e he => by
    have := (i4 e he).2
    have := fln_le (L := fg σ.Fg (en σ.E e).1) (fun k hk => (i3 _ k hk).1)
    omega
  refine AC.of [some (.ref b), none, none, none] rfl (by decide) (Nat.le_of_ble_eq_true rfl) rfl ?_
  have loop : ∀ k j z, ¬ σ.E.length = 0 → j + k = σ.E.length → AF G mX7_beatsToEmptyQueue 1 0 0 (AV (some (.int (nI (btq σ)))) F) F 13 [some (.ref b), some (.int (nI (mx1 (bte σ) j))), some (.int (nI j)), z] [] := by
    intro k
    induction k with
    | zero =>
      intro j z hne hj
      refine AF.iload_n dX7_beatsToEmptyQueue_13 rfl ?_
      refine AF.aload_n dX7_beatsToEmptyQueue_14 rfl ?_
      refine AF.getfield dX7_beatsToEmptyQueue_15 fl_X7_32 (by assumption) rfl ?_
      refine AF.icmp_ge 59 dX7_beatsToEmptyQueue_18 (by decide) (fun hb => ?_) (fun hb => ?_)
      · refine AF.iload_n dX7_beatsToEmptyQueue_59 rfl ?_
        exact AF.ireturn dX7_beatsToEmptyQueue_60 rfl ⟨by rw [btq, if_neg hne, show j = σ.E.length by omega], rfl⟩
      · exact absurd (by rw [nI_leI (by omega) (by omega)]; omega) hb
    | succ k ih =>
      intro j z hne hj
      have hr := mx1_le (g := bte σ) (b := B + 50) (by omega) j (fun i hi => by have := hbb i (by omega); unfold bte; omega)
      have hbj := hbb j (by omega)
      refine AF.iload_n dX7_beatsToEmptyQueue_13 rfl ?_
      refine AF.aload_n dX7_beatsToEmptyQueue_14 rfl ?_
      refine AF.getfield dX7_beatsToEmptyQueue_15 fl_X7_32 (by assumption) rfl ?_
      refine AF.icmp_ge 59 dX7_beatsToEmptyQueue_18 (by decide) (fun hb => ?_) (fun hb => ?_)
      · rw [nI_leI (by omega) (by omega)] at hb
        omega
      · refine AF.aload_n dX7_beatsToEmptyQueue_21 rfl ?_
        refine AF.getfield dX7_beatsToEmptyQueue_22 fl_X7_29 (by assumption) rfl ?_
        refine AF.iload_n dX7_beatsToEmptyQueue_25 rfl ?_
        refine AF.iaload (_) dX7_beatsToEmptyQueue_26 (by assumption) rfl (by omega) (by decide) ?_
        rw [(hE.2 j (by omega)).2]
        refine AF.aload_n dX7_beatsToEmptyQueue_27 rfl ?_
        refine AF.getfield dX7_beatsToEmptyQueue_28 fl_X7_21 (by assumption) rfl ?_
        refine AF.aload_n dX7_beatsToEmptyQueue_31 rfl ?_
        refine AF.getfield dX7_beatsToEmptyQueue_32 fl_X7_25 (by assumption) rfl ?_
        refine AF.iload_n dX7_beatsToEmptyQueue_35 rfl ?_
        refine AF.iaload (_) dX7_beatsToEmptyQueue_36 (by assumption) rfl (by omega) (by decide) ?_
        rw [(hE.2 j (by omega)).1]
        refine AF.v1 dX7_beatsToEmptyQueue_37 kv_X7_125 ((X2_lengthOf_ok hG i3 (en σ.E j).1 (i4 j (by omega)).1)) (by assumption) rfl rfl rfl (Nat.le_of_ble_eq_true rfl) (by decide) rfl ?_
        refine AF.iadd dX7_beatsToEmptyQueue_40 ?_
        rw [nI_add]
        refine AF.istore_n dX7_beatsToEmptyQueue_41 (by decide) ?_
        refine AF.iload_n dX7_beatsToEmptyQueue_42 rfl ?_
        refine AF.iload_n dX7_beatsToEmptyQueue_43 rfl ?_
        refine AF.aload_n dX7_beatsToEmptyQueue_44 rfl ?_
        refine AF.getfield dX7_beatsToEmptyQueue_45 fl_X7_36 (by assumption) rfl ?_
        refine AF.isub dX7_beatsToEmptyQueue_48 ?_
        refine AF.max dX7_beatsToEmptyQueue_49 km_X7_128 (Nat.le_of_ble_eq_true rfl) (by decide) ?_
        rw [max_sub (by omega) (by omega) (by omega) (by omega)]
        refine AF.istore_n dX7_beatsToEmptyQueue_52 (by decide) ?_
        refine AF.inc1 dX7_beatsToEmptyQueue_53 rfl (by decide) ?_
        refine AF.goto 13 dX7_beatsToEmptyQueue_56 (by decide) ?_
        exact ih (j + 1) _ hne (by omega)
  refine AF.aload_n dX7_beatsToEmptyQueue_0 rfl ?_
  refine AF.getfield dX7_beatsToEmptyQueue_1 fl_X7_32 (by assumption) rfl ?_
  refine AF.if_ne 9 dX7_beatsToEmptyQueue_4 (by decide) (fun hc => ?_) (fun hc => ?_)
  · have hc : ¬ σ.E.length = 0 := fun q => by
      rw [q] at hc
      exact hc rfl
    refine AF.iconst (nI 1) dX7_beatsToEmptyQueue_9 (by decide) ?_
    refine AF.istore_n dX7_beatsToEmptyQueue_10 (by decide) ?_
    refine AF.iconst (nI 0) dX7_beatsToEmptyQueue_11 (by decide) ?_
    refine AF.istore_n dX7_beatsToEmptyQueue_12 (by decide) ?_
    exact loop σ.E.length 0 none hc (by omega)
  · have hc : σ.E.length = 0 := by
      rw [show (0 : Int32) = nI 0 from rfl, nI_eq (by omega) (by omega)] at hc
      exact hc
    refine AF.iconst (nI 0) dX7_beatsToEmptyQueue_7 (by decide) ?_
    exact AF.ireturn dX7_beatsToEmptyQueue_8 rfl ⟨by rw [btq, if_pos hc], rfl⟩
set_option maxRecDepth 100000 in
theorem X7_openingFromLastStep_ok (hS : SA G F b σ) {B : Nat} (hI : SI σ B) (x last : Nat) (hx : x < σ.J.length) (hl : last < 2 ^ 30) : AC G mX7_openingFromLastStep 1 0 0 [.ref b, .int (nI x), .int (nI last)] F (AV (some (.int (nI (lsO σ x last)))) F) := by
  obtain ⟨ef, es, ⟨s0, s9, s10⟩, hE, hJ, hG⟩ := hS
  have h6 := hE.1
  have hIJ := hI.1 x
  obtain ⟨-, i2, i3, i4, i5, i6, i7, i8⟩ := hI
  obtain ⟨f, g, ⟨j0, j1, j2⟩, hn, hr⟩ := hJ
  obtain ⟨sc, dl, jt, op, ⟨g0, g1, g2, g3', g4⟩, hfg⟩ := hG
  have h5 := hfg.1
  have hle := fun e => lsE_le (E := σ.E) (x := x) (last := last) (q := (σ.bt + 1, jo σ.J x)) (b := σ.bt + 1 + last) ⟨by dsimp only; omega, hIJ.2⟩ (by omega) i3 e
  refine AC.of [some (.ref b), some (.int (nI x)), some (.int (nI last)), none, none, none, none, none, none, none] rfl (by decide) (Nat.le_of_ble_eq_true rfl) rfl ?_
  have loop : ∀ k e z6 z7 z8 z9, e + k = σ.E.length → AF G mX7_openingFromLastStep 1 0 0 (AV (some (.int (nI (lsO σ x last)))) F) F 21 [some (.ref b), some (.int (nI x)), some (.int (nI last)), some (.int (nI (lsE σ.Fg σ.E x last (σ.bt + 1, jo σ.J x) e).1)), some (.int (nI (lsE σ.Fg σ.E x last (σ.bt + 1, jo σ.J x) e).2)), some (.int (nI e)), z6, z7, z8, z9] [] := by
    intro k
    induction k with
    | zero =>
      intro e z6 z7 z8 z9 he
      refine AF.iload dX7_openingFromLastStep_21 rfl ?_
      refine AF.aload_n dX7_openingFromLastStep_23 rfl ?_
      refine AF.getfield dX7_openingFromLastStep_24 fl_X7_32 (by assumption) rfl ?_
      refine AF.icmp_ge 139 dX7_openingFromLastStep_27 (by decide) (fun hb => ?_) (fun hb => ?_)
      · refine AF.iload dX7_openingFromLastStep_139 rfl ?_
        exact AF.ireturn dX7_openingFromLastStep_141 rfl ⟨by rw [lsO, show e = σ.E.length by omega], rfl⟩
      · exact absurd (by rw [nI_leI (by omega) (by omega)]; omega) hb
    | succ k ih =>
      intro e z6 z7 z8 z9 he
      obtain ⟨qi, qt⟩ := i4 e (by omega)
      obtain ⟨h8, hsc, hrow⟩ := hfg.2 _ qi
      have hin : ∀ k2 j z8 z9, j + k2 = (fg σ.Fg (en σ.E e).1).length → AF G mX7_openingFromLastStep 1 0 0 (AV (some (.int (nI (lsO σ x last)))) F) F 42 [some (.ref b), some (.int (nI x)), some (.int (nI last)), some (.int (nI (lsK (fg σ.Fg (en σ.E e).1) (en σ.E e).2 x last (lsE σ.Fg σ.E x last (σ.bt + 1, jo σ.J x) e) j).1)), some (.int (nI (lsK (fg σ.Fg (en σ.E e).1) (en σ.E e).2 x last (lsE σ.Fg σ.E x last (σ.bt + 1, jo σ.J x) e) j).2)), some (.int (nI e)), some (.int (nI (en σ.E e).1)), some (.int (nI j)), z8, z9] [] := by
        intro k2
        induction k2 with
        | zero =>
          intro j z8 z9 hj
          refine AF.iload dX7_openingFromLastStep_42 rfl ?_
          refine AF.aload_n dX7_openingFromLastStep_44 rfl ?_
          refine AF.getfield dX7_openingFromLastStep_45 fl_X7_21 (by assumption) rfl ?_
          refine AF.getfield dX7_openingFromLastStep_48 fl_X7_89 (by assumption) rfl ?_
          refine AF.iload dX7_openingFromLastStep_51 rfl ?_
          refine AF.iaload (_) dX7_openingFromLastStep_53 (by assumption) rfl (by omega) (by decide) ?_
          rw [hsc]
          refine AF.icmp_ge 133 dX7_openingFromLastStep_54 (by decide) (fun hb => ?_) (fun hb => ?_)
          · rw [show j = (fg σ.Fg (en σ.E e).1).length by omega]
            refine AF.inc1 dX7_openingFromLastStep_133 rfl (by decide) ?_
            refine AF.goto 21 dX7_openingFromLastStep_136 (by decide) ?_
            exact ih (e + 1) _ _ _ _ (by omega)
          · exact absurd (by rw [nI_leI (by omega) (by omega)]; omega) hb
        | succ k2 ih2 =>
          intro j z8 z9 hj
          have q1 := hrow j (by omega)
          have q2 := i3 _ j (show j < (fg σ.Fg (en σ.E e).1).length by omega)
          have q3 := lsK_le (L := fg σ.Fg (en σ.E e).1) (st := (en σ.E e).2) (x := x) (last := last) (hle e) (by omega) j (by omega) (fun k hk => (i3 _ k hk).2.2)
          refine AF.iload dX7_openingFromLastStep_42 rfl ?_
          refine AF.aload_n dX7_openingFromLastStep_44 rfl ?_
          refine AF.getfield dX7_openingFromLastStep_45 fl_X7_21 (by assumption) rfl ?_
          refine AF.getfield dX7_openingFromLastStep_48 fl_X7_89 (by assumption) rfl ?_
          refine AF.iload dX7_openingFromLastStep_51 rfl ?_
          refine AF.iaload (_) dX7_openingFromLastStep_53 (by assumption) rfl (by omega) (by decide) ?_
          rw [hsc]
          refine AF.icmp_ge 133 dX7_openingFromLastStep_54 (by decide) (fun hb => ?_) (fun hb => ?_)
          · rw [nI_leI (by omega) (by omega)] at hb
            omega
          · refine AF.iload dX7_openingFromLastStep_57 rfl ?_
            refine AF.iload dX7_openingFromLastStep_59 rfl ?_
            refine AF.sn1 dX7_openingFromLastStep_61 kn_X7_112 ((X8_slot_ok (en σ.E e).1 j)) rfl rfl (Nat.le_of_ble_eq_true rfl) (by decide) rfl ?_
            refine AF.istore dX7_openingFromLastStep_64 (by decide) ?_
            refine AF.aload_n dX7_openingFromLastStep_66 rfl ?_
            refine AF.getfield dX7_openingFromLastStep_67 fl_X7_29 (by assumption) rfl ?_
            refine AF.iload dX7_openingFromLastStep_70 rfl ?_
            refine AF.iaload (_) dX7_openingFromLastStep_72 (by assumption) rfl (by omega) (by decide) ?_
            rw [(hE.2 e (by omega)).2]
            refine AF.aload_n dX7_openingFromLastStep_73 rfl ?_
            refine AF.getfield dX7_openingFromLastStep_74 fl_X7_21 (by assumption) rfl ?_
            refine AF.getfield dX7_openingFromLastStep_77 fl_X7_116 (by assumption) rfl ?_
            refine AF.iload dX7_openingFromLastStep_80 rfl ?_
            refine AF.iaload (_) dX7_openingFromLastStep_82 (by assumption) rfl (by omega) (by decide) ?_
            rw [q1.1]
            refine AF.iadd dX7_openingFromLastStep_83 ?_
            rw [nI_add]
            refine AF.istore dX7_openingFromLastStep_84 (by decide) ?_
            refine AF.aload_n dX7_openingFromLastStep_86 rfl ?_
            refine AF.getfield dX7_openingFromLastStep_87 fl_X7_21 (by assumption) rfl ?_
            refine AF.getfield dX7_openingFromLastStep_90 fl_X7_122 (by assumption) rfl ?_
            refine AF.iload dX7_openingFromLastStep_93 rfl ?_
            refine AF.iaload (_) dX7_openingFromLastStep_95 (by assumption) rfl (by omega) (by decide) ?_
            rw [q1.2.1]
            refine AF.iload_n dX7_openingFromLastStep_96 rfl ?_
            have h9 := fun z8 z9 => ih2 (j + 1) z8 z9 (by omega)
            simp only [lsK] at h9
            refine AF.icmp_ne 127 dX7_openingFromLastStep_97 (by decide) (fun hc => ?_) (fun hc => ?_)
            · rw [nI_eq (by omega) (by omega)] at hc
              rw [if_neg (fun q => hc q.1)] at h9
              refine AF.inc1 dX7_openingFromLastStep_127 rfl (by decide) ?_
              refine AF.goto 42 dX7_openingFromLastStep_130 (by decide) ?_
              exact h9 _ _
            · rw [nI_eq (by omega) (by omega)] at hc
              refine AF.iload dX7_openingFromLastStep_100 rfl ?_
              refine AF.iload_n dX7_openingFromLastStep_102 rfl ?_
              refine AF.icmp_lt 127 dX7_openingFromLastStep_103 (by decide) (fun hc2 => ?_) (fun hc2 => ?_)
              · rw [nI_ltI (by omega) (by omega)] at hc2
                rw [if_neg (fun q => absurd q.2.1 (by omega))] at h9
                refine AF.inc1 dX7_openingFromLastStep_127 rfl (by decide) ?_
                refine AF.goto 42 dX7_openingFromLastStep_130 (by decide) ?_
                exact h9 _ _
              · rw [nI_ltI (by omega) (by omega)] at hc2
                refine AF.iload dX7_openingFromLastStep_106 rfl ?_
                refine AF.iload_n dX7_openingFromLastStep_108 rfl ?_
                refine AF.icmp_gt 127 dX7_openingFromLastStep_109 (by decide) (fun hc3 => ?_) (fun hc3 => ?_)
                · rw [nI_ltI (by omega) (by omega)] at hc3
                  rw [if_neg (fun q => absurd q.2.2 (by omega))] at h9
                  refine AF.inc1 dX7_openingFromLastStep_127 rfl (by decide) ?_
                  refine AF.goto 42 dX7_openingFromLastStep_130 (by decide) ?_
                  exact h9 _ _
                · rw [nI_ltI (by omega) (by omega)] at hc3
                  rw [if_pos ⟨hc, by omega, by omega⟩] at h9
                  refine AF.iload dX7_openingFromLastStep_112 rfl ?_
                  refine AF.istore_n dX7_openingFromLastStep_114 (by decide) ?_
                  refine AF.aload_n dX7_openingFromLastStep_115 rfl ?_
                  refine AF.getfield dX7_openingFromLastStep_116 fl_X7_21 (by assumption) rfl ?_
                  refine AF.getfield dX7_openingFromLastStep_119 fl_X7_124 (by assumption) rfl ?_
                  refine AF.iload dX7_openingFromLastStep_122 rfl ?_
                  refine AF.iaload (_) dX7_openingFromLastStep_124 (by assumption) rfl (by omega) (by decide) ?_
                  rw [q1.2.2]
                  refine AF.istore dX7_openingFromLastStep_125 (by decide) ?_
                  refine AF.inc1 dX7_openingFromLastStep_127 rfl (by decide) ?_
                  refine AF.goto 42 dX7_openingFromLastStep_130 (by decide) ?_
                  exact h9 _ _
      refine AF.iload dX7_openingFromLastStep_21 rfl ?_
      refine AF.aload_n dX7_openingFromLastStep_23 rfl ?_
      refine AF.getfield dX7_openingFromLastStep_24 fl_X7_32 (by assumption) rfl ?_
      refine AF.icmp_ge 139 dX7_openingFromLastStep_27 (by decide) (fun hb => ?_) (fun hb => ?_)
      · rw [nI_leI (by omega) (by omega)] at hb
        omega
      · refine AF.aload_n dX7_openingFromLastStep_30 rfl ?_
        refine AF.getfield dX7_openingFromLastStep_31 fl_X7_25 (by assumption) rfl ?_
        refine AF.iload dX7_openingFromLastStep_34 rfl ?_
        refine AF.iaload (_) dX7_openingFromLastStep_36 (by assumption) rfl (by omega) (by decide) ?_
        rw [(hE.2 e (by omega)).1]
        refine AF.istore dX7_openingFromLastStep_37 (by decide) ?_
        refine AF.iconst (nI 0) dX7_openingFromLastStep_39 (by decide) ?_
        refine AF.istore dX7_openingFromLastStep_40 (by decide) ?_
        exact hin (fg σ.Fg (en σ.E e).1).length 0 _ _ (by omega)
  refine AF.aload_n dX7_openingFromLastStep_0 rfl ?_
  refine AF.getfield dX7_openingFromLastStep_1 fl_X7_36 (by assumption) rfl ?_
  refine AF.iconst (nI 1) dX7_openingFromLastStep_4 (by decide) ?_
  refine AF.iadd dX7_openingFromLastStep_5 ?_
  rw [nI_add]
  refine AF.istore_n dX7_openingFromLastStep_6 (by decide) ?_
  refine AF.aload_n dX7_openingFromLastStep_7 rfl ?_
  refine AF.getfield dX7_openingFromLastStep_8 fl_X7_12 (by assumption) rfl ?_
  refine AF.getfield dX7_openingFromLastStep_11 fl_X7_119 (by assumption) rfl ?_
  refine AF.iload_n dX7_openingFromLastStep_14 rfl ?_
  refine AF.iaload (_) dX7_openingFromLastStep_15 (by assumption) rfl (by omega) (by decide) ?_
  rw [(hr x hx).2]
  refine AF.istore dX7_openingFromLastStep_16 (by decide) ?_
  refine AF.iconst (nI 0) dX7_openingFromLastStep_18 (by decide) ?_
  refine AF.istore dX7_openingFromLastStep_19 (by decide) ?_
  exact loop σ.E.length 0 _ _ _ _ (by omega)
set_option maxRecDepth 100000 in
theorem X7_demandFromLastSteps_ok (hS : SA G F b σ) {B : Nat} (hI : SI σ B) (n : Nat) (hn : n ≤ 40) : AC G mX7_demandFromLastSteps 2 0 0 [.ref b, .int (nI n)] F (AV (some (.int (nI (lsD σ n)))) F) := by
  have hO := fun x hx => X7_openingFromLastStep_ok hS hI x (σ.bt + n) hx (by have := hI.2.2.2.2; omega)
  obtain ⟨ef, es, ⟨s0, s9, s10⟩, hE, hJ, hG⟩ := hS
  obtain ⟨f, g, ⟨j0, j1, j2⟩, h10, hr⟩ := hJ
  have hb2 := hI.2.2.2.2.1
  have hb3 := hI.2.2.2.2.2.2.2
  refine AC.of [some (.ref b), some (.int (nI n)), none, none] rfl (by decide) (Nat.le_of_ble_eq_true rfl) rfl ?_
  have loop : ∀ k j, j + k = σ.J.length → AF G mX7_demandFromLastSteps 2 0 0 (AV (some (.int (nI (lsD σ n)))) F) F 4 [some (.ref b), some (.int (nI n)), some (.int (nI (sumN (fun j => lsO σ j (σ.bt + n)) j))), some (.int (nI j))] [] := by
    intro k
    induction k with
    | zero =>
      intro j hj
      refine AF.iload_n dX7_demandFromLastSteps_4 rfl ?_
      refine AF.aload_n dX7_demandFromLastSteps_5 rfl ?_
      refine AF.getfield dX7_demandFromLastSteps_6 fl_X7_12 (by assumption) rfl ?_
      refine AF.getfield dX7_demandFromLastSteps_9 fl_X7_133 (by assumption) rfl ?_
      refine AF.icmp_ge 35 dX7_demandFromLastSteps_12 (by decide) (fun hb => ?_) (fun hb => ?_)
      · refine AF.iload_n dX7_demandFromLastSteps_35 rfl ?_
        exact AF.ireturn dX7_demandFromLastSteps_36 rfl ⟨by rw [show j = σ.J.length by omega]; rfl, rfl⟩
      · exact absurd (by rw [nI_leI (by omega) (by omega)]; omega) hb
    | succ k ih =>
      intro j hj
      refine AF.iload_n dX7_demandFromLastSteps_4 rfl ?_
      refine AF.aload_n dX7_demandFromLastSteps_5 rfl ?_
      refine AF.getfield dX7_demandFromLastSteps_6 fl_X7_12 (by assumption) rfl ?_
      refine AF.getfield dX7_demandFromLastSteps_9 fl_X7_133 (by assumption) rfl ?_
      refine AF.icmp_ge 35 dX7_demandFromLastSteps_12 (by decide) (fun hb => ?_) (fun hb => ?_)
      · rw [nI_leI (by omega) (by omega)] at hb
        omega
      · refine AF.iload_n dX7_demandFromLastSteps_15 rfl ?_
        refine AF.aload_n dX7_demandFromLastSteps_16 rfl ?_
        refine AF.iload_n dX7_demandFromLastSteps_17 rfl ?_
        refine AF.aload_n dX7_demandFromLastSteps_18 rfl ?_
        refine AF.getfield dX7_demandFromLastSteps_19 fl_X7_36 (by assumption) rfl ?_
        refine AF.iload_n dX7_demandFromLastSteps_22 rfl ?_
        refine AF.iadd dX7_demandFromLastSteps_23 ?_
        rw [nI_add]
        refine AF.v1 dX7_demandFromLastSteps_24 kv_X7_136 ((hO j (by omega))) (by assumption) rfl rfl rfl (Nat.le_of_ble_eq_true rfl) (by decide) rfl ?_
        refine AF.iadd dX7_demandFromLastSteps_27 ?_
        rw [nI_add]
        refine AF.istore_n dX7_demandFromLastSteps_28 (by decide) ?_
        refine AF.inc1 dX7_demandFromLastSteps_29 rfl (by decide) ?_
        refine AF.goto 4 dX7_demandFromLastSteps_32 (by decide) ?_
        exact ih (j + 1) (by omega)
  refine AF.iconst (0) dX7_demandFromLastSteps_0 (by decide) ?_
  refine AF.istore_n dX7_demandFromLastSteps_1 (by decide) ?_
  refine AF.iconst (0) dX7_demandFromLastSteps_2 (by decide) ?_
  refine AF.istore_n dX7_demandFromLastSteps_3 (by decide) ?_
  exact loop σ.J.length 0 (by omega)
end

