/-! The script: which pattern fits, the whole text. -/
theorem pat_snd : ∀ c, c < 9 → (∃ n, (pats.getD c "").toList.length = n + 2) ∧ PLN (pats.getD c "") 1 := by
  have : ∀ c, c < 9 → (pats.getD c "").toList.length = (pats.getD c "").toList.length - 2 + 2 ∧ PLN (pats.getD c "") 1 := by unfold PLN; decide +kernel
  exact fun c hc => ⟨⟨_, (this c hc).1⟩, (this c hc).2⟩
theorem prc_1 {T : List Int32} {p c : Nat} (hc : c < 9) (h : ¬ hereT T p = sby (pats.getD c "") 0) : prC T p c = (false, p, []) := by
  obtain ⟨⟨n, hn⟩, hpl⟩ := pat_fst c hc
  have h1 : ruR T (pats.getD c "") (true, p, []) 1 = (false, p, []) := (paR_ch hpl).trans (if_neg (fun q => h q.2))
  have h2 := ruR_f (T := T) (tx := pats.getD c "") (s := (true, p, [])) (k := 1) (by rw [h1]) n
  unfold prC
  rw [hn, show n + 1 = 1 + n by omega, h2, h1]
theorem ru_1 {T : List Int32} {p c : Nat} (hc : c < 9) (h : hereT T p = sby (pats.getD c "") 0) : ruR T (pats.getD c "") (true, p, []) 1 = (true, p + 1, []) := by
  obtain ⟨⟨n, hn⟩, hpl⟩ := pat_fst c hc
  exact (paR_ch hpl).trans (if_pos ⟨rfl, h⟩)
theorem prc_2 {T : List Int32} {p c : Nat} (hc : c < 9) (h : hereT T p = sby (pats.getD c "") 0) (h' : ¬ hereT T (p + 1) = sby (pats.getD c "") 1) : prC T p c = (false, p + 1, []) := by
  obtain ⟨⟨n, hn⟩, hpl⟩ := pat_snd c hc
  have h0 := ru_1 hc h
  have h1 : ruR T (pats.getD c "") (true, p, []) 2 = (false, p + 1, []) := by
    show paR T (sby (pats.getD c "") 1) (ruR T (pats.getD c "") (true, p, []) 1) = _
    rw [h0]
    exact (paR_ch hpl).trans (if_neg (fun q => h' q.2))
  have h2 := ruR_f (T := T) (tx := pats.getD c "") (s := (true, p, [])) (k := 2) (by rw [h1]) n
  unfold prC
  rw [hn, show n + 2 = 2 + n by omega, h2, h1]
theorem prc_3 {T : List Int32} {p c : Nat} (hc : c < 9) (hp : p ≤ T.length) (h : hereT T p = sby (pats.getD c "") 0) : p + 1 ≤ (prC T p c).2.1 := by
  obtain ⟨⟨n, hn⟩, -⟩ := pat_fst c hc
  have h1 := ruR_mono (T := T) (TX_pats c hc) (s := (true, p, [])) hp (i := 1) n (by omega)
  rw [ru_1 hc h, show 1 + n = n + 1 by omega, ← hn] at h1
  exact h1
theorem cm_112 {T : List Int32} {p : Nat} (hp : p ≤ T.length) (hx : hereT T p = 112) : p + 1 ≤ (cmS T p).2.1 := by
  by_cases h7 : hereT T (p + 1) = 108
  · rw [(cix_c (T := T) (p := p) (c := 7) (by unfold cix; rw [hx, h7]; rfl)).1]
    exact prc_3 (by decide) hp (hx.trans (by decide +kernel))
  · by_cases h8 : hereT T (p + 1) = 97
    · rw [(cix_c (T := T) (p := p) (c := 8) (by unfold cix; rw [hx, h8]; rfl)).1]
      exact prc_3 (by decide) hp (hx.trans (by decide +kernel))
    · rw [(cix_c (T := T) (p := p) (c := 2) (by unfold cix; rw [hx, if_neg h7, if_neg h8]; rfl)).1]
      exact prc_3 (by decide) hp (hx.trans (by decide +kernel))
theorem prc_le {T : List Int32} {p c : Nat} (hc : c < 9) (hp : p ≤ T.length) : (prC T p c).2.1 ≤ (cmS T p).2.1 ∧ ((prC T p c).1 = true → cix T p = some c) := by
  have hL := (cmS_le hp).2
  have fin : cix T p = some c → (prC T p c).2.1 ≤ (cmS T p).2.1 ∧ ((prC T p c).1 = true → cix T p = some c) := fun h => ⟨by rw [(cix_c h).1]; exact Nat.le_refl _, fun _ => h⟩
  by_cases h0 : hereT T p = sby (pats.getD c "") 0
  · have grp : hereT T p = 112 → ¬ hereT T (p + 1) = sby (pats.getD c "") 1 → (prC T p c).2.1 ≤ (cmS T p).2.1 ∧ ((prC T p c).1 = true → cix T p = some c) := fun hx h1 => by
      rw [prc_2 hc h0 h1]
      exact ⟨cm_112 hp hx, fun q => by cases q⟩
    rcases (by omega : c = 0 ∨ c = 1 ∨ c = 2 ∨ c = 3 ∨ c = 4 ∨ c = 5 ∨ c = 6 ∨ c = 7 ∨ c = 8) with rfl | rfl | rfl | rfl | rfl | rfl | rfl | rfl | rfl
    · have hx : hereT T p = 106 := h0.trans (by decide +kernel)
      exact fin (by unfold cix; rw [hx]; rfl)
    · have hx : hereT T p = 111 := h0.trans (by decide +kernel)
      exact fin (by unfold cix; rw [hx]; rfl)
    · have hx : hereT T p = 112 := h0.trans (by decide +kernel)
      by_cases h1 : hereT T (p + 1) = sby (pats.getD 2 "") 1
      · have h1 : hereT T (p + 1) = 117 := h1.trans (by decide +kernel)
        exact fin (by unfold cix; rw [hx, h1]; rfl)
      · exact grp hx h1
    · have hx : hereT T p = 119 := h0.trans (by decide +kernel)
      exact fin (by unfold cix; rw [hx]; rfl)
    · have hx : hereT T p = 116 := h0.trans (by decide +kernel)
      exact fin (by unfold cix; rw [hx]; rfl)
    · have hx : hereT T p = 102 := h0.trans (by decide +kernel)
      exact fin (by unfold cix; rw [hx]; rfl)
    · have hx : hereT T p = 115 := h0.trans (by decide +kernel)
      exact fin (by unfold cix; rw [hx]; rfl)
    · have hx : hereT T p = 112 := h0.trans (by decide +kernel)
      by_cases h1 : hereT T (p + 1) = sby (pats.getD 7 "") 1
      · have h1 : hereT T (p + 1) = 108 := h1.trans (by decide +kernel)
        exact fin (by unfold cix; rw [hx, h1]; rfl)
      · exact grp hx h1
    · have hx : hereT T p = 112 := h0.trans (by decide +kernel)
      by_cases h1 : hereT T (p + 1) = sby (pats.getD 8 "") 1
      · have h1 : hereT T (p + 1) = 97 := h1.trans (by decide +kernel)
        exact fin (by unfold cix; rw [hx, h1]; rfl)
      · exact grp hx h1
  · rw [prc_1 hc h0]
    exact ⟨hL, fun q => by cases q⟩
/-- how many numbers stand in the first j parts -/
def kct (tx : String) : Nat → Nat
  | 0 => 0
  | j + 1 => kct tx j + if sby tx j = 78 ∨ sby tx j = 68 ∨ sby tx j = 83 then 1 else 0
theorem nuR_len {T : List Int32} {k : Nat} {s : PS} : (nuR T k s).2.2.length ≤ s.2.2.length + 1 := by
  unfold nuR; split
  · simp
  · exact Nat.le_succ _
theorem sgR_len {T : List Int32} {s : PS} : (sgR T s).2.2.length ≤ s.2.2.length + 1 := by
  unfold sgR; split
  · simp
  · split
    · simp
    · exact Nat.le_succ _
theorem ruR_len {T : List Int32} {tx : String} {p : Nat} : ∀ j, (ruR T tx (true, p, []) j).2.2.length ≤ kct tx j
  | 0 => Nat.le_refl _
  | j + 1 => by
    have h := ruR_len (T := T) (tx := tx) (p := p) j
    show (paR T (sby tx j) (ruR T tx (true, p, []) j)).2.2.length ≤ kct tx j + if sby tx j = 78 ∨ sby tx j = 68 ∨ sby tx j = 83 then 1 else 0
    unfold paR
    by_cases h1 : sby tx j = 78
    · rw [if_pos h1, if_pos (Or.inl h1)]
      exact Nat.le_trans nuR_len (by omega)
    · rw [if_neg h1]
      by_cases h2 : sby tx j = 68
      · rw [if_pos h2, if_pos (Or.inr (Or.inl h2))]
        exact Nat.le_trans nuR_len (by omega)
      · rw [if_neg h2]
        by_cases h3 : sby tx j = 83
        · rw [if_pos h3, if_pos (Or.inr (Or.inr h3))]
          exact Nat.le_trans sgR_len (by omega)
        · rw [if_neg h3, if_neg (fun q => q.elim h1 (fun q => q.elim h2 h3))]
          rw [show (chR T (sby tx j) (ruR T tx (true, p, []) j)).2.2 = (ruR T tx (true, p, []) j).2.2 from by unfold chR; split <;> rfl]
          omega
theorem pat_kct : ∀ c, c < 9 → ∀ j, j < (pats.getD c "").toList.length → kct (pats.getD c "") j < 4 := by
  have : ∀ c, c < 9 → ∀ j, j < (pats.getD c "").toList.length → kct (pats.getD c "") j < 4 := by decide +kernel
  exact this
section
variable {G : GA} {F : AH} {b pl cc cm a v : Nat} {T ns : List Int32} {tx : String}
set_option maxRecDepth 100000 in
theorem X6_fits_ok {F0 : AH} (hS : TS G F0 b T pl cc cm ns) (ha : gN G ≤ b) (hp : pl ≤ T.length) (hX : STR G a v tx) (hx : TXok tx) (hk : ∀ j, j < tx.toList.length → kct tx j < 4) : AC G mX6_fits 4 0 0 [.ref b, .ref a] F0 (TW G b T (ruR T tx (true, pl, []) tx.toList.length).2.1 cc cm (ruR T tx (true, pl, []) tx.toList.length).2.2 (some (.int (bI (ruR T tx (true, pl, []) tx.toList.length).1))) F0) := by
  have hO := hX.1
  obtain ⟨tf, nf, ⟨h0, h1, h2⟩, hT, hN⟩ := hS
  refine AC.of [some (.ref b), some (.ref a), none] rfl (by decide) (Nat.le_of_ble_eq_true rfl) rfl ?_
  have hfr : Fr b (b + 3) F0 F0 := Fr.rf
  have loop : ∀ r j F1, j + r = tx.toList.length → TS G F1 b T (ruR T tx (true, pl, []) j).2.1 cc cm (ruR T tx (true, pl, []) j).2.2 → (ruR T tx (true, pl, []) j).1 = true → Fr b (b + 3) F0 F1 → AF G mX6_fits 4 0 0 (TW G b T (ruR T tx (true, pl, []) tx.toList.length).2.1 cc cm (ruR T tx (true, pl, []) tx.toList.length).2.2 (some (.int (bI (ruR T tx (true, pl, []) tx.toList.length).1))) F0) F1 7 [some (.ref b), some (.ref a), some (.int (nI j))] [] := by
    have hlen := hx.1
    intro r
    induction r with
    | zero =>
      intro j F1 hj hS hok hfr
      obtain rfl : j = tx.toList.length := by omega
      refine AF.iload_n dX6_fits_7 rfl ?_
      refine AF.aload_n dX6_fits_8 rfl ?_
      refine AF.vc1 dX6_fits_9 jv_X6_70 (J0_length_ok hX) hO rfl rfl (Nat.le_of_ble_eq_true rfl) (by decide) rfl ?_
      refine AF.icmp_ge 35 dX6_fits_12 (by decide) (fun hb => ?_) (fun hb => ?_)
      · refine AF.iconst (1) dX6_fits_35 (by decide) ?_
        exact AF.zreturn dX6_fits_36 rfl rfl ⟨by rw [hok]; rfl, hS, hfr⟩
      · exact absurd (by rw [nI_leI (by omega) (by omega)]; omega) hb
    | succ r ih =>
      intro j F1 hj hS hok hfr
      refine AF.iload_n dX6_fits_7 rfl ?_
      refine AF.aload_n dX6_fits_8 rfl ?_
      refine AF.vc1 dX6_fits_9 jv_X6_70 (J0_length_ok hX) hO rfl rfl (Nat.le_of_ble_eq_true rfl) (by decide) rfl ?_
      refine AF.icmp_ge 35 dX6_fits_12 (by decide) (fun hb => ?_) (fun hb => ?_)
      · rw [nI_leI (by omega) (by omega)] at hb
        omega
      · refine AF.aload_n dX6_fits_15 rfl ?_
        refine AF.aload_n dX6_fits_16 rfl ?_
        refine AF.iload_n dX6_fits_17 rfl ?_
        refine AF.vc1 dX6_fits_18 jv_X6_75 (J0_charAt_ok hX (j := j) (by omega) (by omega) (hx.2 j (by omega))) hO rfl rfl (Nat.le_of_ble_eq_true rfl) (by decide) rfl ?_
        obtain ⟨tf, nf, ⟨h0, h1, h2⟩, hT, hN⟩ := id hS
        have hl := (ruR_le hx (s := (true, pl, [])) hp j (by omega)).1
        have hlen := Nat.lt_of_le_of_lt (ruR_len (T := T) (tx := tx) (p := pl) j) (hk j (by omega))
        have e0 : paR T (sby tx j) (true, (ruR T tx (true, pl, []) j).2.1, (ruR T tx (true, pl, []) j).2.2) = ruR T tx (true, pl, []) (j + 1) := congrArg (paR T (sby tx j)) (Prod.ext hok.symm rfl)
        refine AF.vw dX6_fits_21 kv_X6_79 (X6_takePart_ok hS ha hl hlen (sby tx j) (sby_ne hx (by omega))) (by assumption) rfl rfl rfl (Nat.le_of_ble_eq_true rfl) (by decide) rfl (fun E F9 q => nomatch q.1) (fun v F q => ?_)
        obtain ⟨q, hS2, q2⟩ := q
        cases q
        rw [e0] at hS2 ⊢
        by_cases ho : (ruR T tx (true, pl, []) (j + 1)).1 = true
        · rw [ho]
          refine AF.if_ne 29 dX6_fits_24 (by decide) (fun hc => ?_) (fun hc => ?_)
          · refine AF.inc1 dX6_fits_29 rfl (by decide) ?_
            refine AF.goto 7 dX6_fits_32 (by decide) ?_
            exact ih (j + 1) F (by omega) hS2 ho (hfr.trans q2 (Nat.le_refl _) (Nat.le_refl _))
          · exact absurd (show bI true = 0 from hc) (by decide)
        · have ho : (ruR T tx (true, pl, []) (j + 1)).1 = false := by simpa using ho
          rw [ho]
          refine AF.if_ne 29 dX6_fits_24 (by decide) (fun hc => ?_) (fun hc => ?_)
          · exact absurd rfl hc
          · refine AF.iconst (0) dX6_fits_27 (by decide) ?_
            have h9 := ruR_f ho (tx.toList.length - (j + 1))
            rw [show j + 1 + (tx.toList.length - (j + 1)) = tx.toList.length by omega] at h9
            exact AF.zreturn dX6_fits_28 rfl rfl ⟨by rw [h9, ho]; rfl, by rw [h9]; exact hS2, hfr.trans q2 (Nat.le_refl _) (Nat.le_refl _)⟩
  refine AF.aload_n dX6_fits_0 rfl ?_
  refine AF.iconst (nI 0) dX6_fits_1 (by decide) ?_
  refine AF.putfieldF dX6_fits_2 fp_X6_38 h0 (by omega) (Nat.le_of_ble_eq_true rfl) rfl rfl (Or.inr fq_3_6) ?_
  intro F e9 h9 o9
  replace h1 := (o9 (b + 1) (by omega)).trans h1
  replace h2 := (o9 (b + 2) (by omega)).trans h2
  replace h0 := h9
  replace hfr := hfr.step e9 (by omega) (by omega) o9
  clear e9 h9 o9
  refine AF.iconst (nI 0) dX6_fits_5 (by decide) ?_
  refine AF.istore_n dX6_fits_6 (by decide) ?_
  exact loop tx.toList.length 0 F (by omega) ⟨tf, nf, ⟨h0, h1, h2⟩, hT, Nat.zero_le _, fun i hi => absurd hi (Nat.not_lt_zero _)⟩ rfl hfr
def TRq (G : GA) (b : Nat) (T : List Int32) (pl cc : Nat) (F0 : AH) : AR → AH → Prop := fun r F' => r = .inl (some (.int (bI (cmS T pl).1))) ∧ (∃ cm' ns', TS G F' b T (cmS T pl).2.1 cc cm' ns' ∧ ((cmS T pl).1 = true → cm' = cmC T pl ∧ ns' = (cmS T pl).2.2)) ∧ Fr b (b + 3) F0 F'
set_option maxRecDepth 100000 in
set_option maxHeartbeats 4000000 in
theorem X6_readCommand_ok {F0 : AH} (hS : TS G F0 b T pl cc cm ns) (ha : gN G ≤ b) (hp : pl ≤ T.length) : AC G mX6_readCommand 5 0 0 [.ref b] F0 (TRq G b T pl cc F0) := by
  refine AC.of [some (.ref b), none, none, none] rfl (by decide) (Nat.le_of_ble_eq_true rfl) rfl (AF.ok fun hG => ?_)
  have hZ := hG.2.2.2.2.2.2.1.2.2.2.1
  have hY := hG.2.2.2.2.2.2.1.2.2.2.2.1
  have h60 : T.length ≤ 60 := by obtain ⟨tf, nf, -, hT, -⟩ := hS; exact hT.1
  have hfr : Fr b (b + 3) F0 F0 := Fr.rf
  have hcl := cmS_le hp
  have loop : ∀ r k fu F1 pl' ns', k + r = 9 → TS G F1 b T pl' cc cm ns' → pl ≤ fu → fu ≤ (cmS T pl).2.1 → (∀ i, i < k → (prC T pl i).1 = false ∧ (prC T pl i).2.1 ≤ fu) → Fr b (b + 3) F0 F1 → AF G mX6_readCommand 5 0 0 (TRq G b T pl cc F0) F1 12 [some (.ref b), some (.int (nI pl)), some (.int (nI fu)), some (.int (nI k))] [] := by
    intro r
    induction r with
    | zero =>
      intro k fu F1 pl' ns' hk hS h1f h2f hall hfr
      obtain rfl : k = 9 := by omega
      obtain ⟨tf, nf, ⟨h0, h1, h2⟩, hT, hN⟩ := hS
      refine AF.iload_n dX6_readCommand_12 rfl ?_
      refine AF.getstatic dX6_readCommand_13 gs_X6_52 (hZ.1) ?_
      refine AF.arraylengthT (v := nI 9) dX6_readCommand_16 hZ.2.1 rfl ?_
      refine AF.icmp_ge 66 dX6_readCommand_17 (by decide) (fun hb => ?_) (fun hb => ?_)
      · refine AF.aload_n dX6_readCommand_66 rfl ?_
        refine AF.iload_n dX6_readCommand_67 rfl ?_
        refine AF.putfieldF dX6_readCommand_68 fp_X6_19 h0 (by omega) (Nat.le_of_ble_eq_true rfl) rfl rfl (Or.inr fq_3_2) ?_
        intro F e9 h9 o9
        replace h1 := (o9 (b + 1) (by omega)).trans h1
        replace h2 := (o9 (b + 2) (by omega)).trans h2
        replace h0 := h9
        replace hfr := hfr.step e9 (by omega) (by omega) o9
        clear e9 h9 o9
        refine AF.iconst (0) dX6_readCommand_71 (by decide) ?_
        have hno : (cmS T pl).1 = false ∧ (cmS T pl).2.1 = fu := by
          cases e : cix T pl with
          | none =>
            have e2 : cmS T pl = (false, pl, []) := by unfold cmS; rw [e]
            rw [e2] at h2f ⊢
            exact ⟨rfl, Nat.le_antisymm h1f h2f⟩
          | some c =>
            have := hall c (cix_lt e)
            rw [← (cix_c e).1] at this
            exact ⟨this.1, Nat.le_antisymm this.2 h2f⟩
        refine AF.zreturn dX6_readCommand_72 rfl rfl ⟨by rw [hno.1]; rfl, ⟨cm, ns', ?_, fun q => by rw [hno.1] at q; cases q⟩, hfr⟩
        rw [hno.2]
        exact ⟨tf, nf, ⟨h0, h1, h2⟩, hT, hN⟩
      · exact absurd (by rw [nI_leI (by omega) (by omega)]; omega) hb
    | succ r ih =>
      intro k fu F1 pl' ns' hk hS h1f h2f hall hfr
      obtain ⟨tf, nf, ⟨h0, h1, h2⟩, hT, hN⟩ := hS
      refine AF.iload_n dX6_readCommand_12 rfl ?_
      refine AF.getstatic dX6_readCommand_13 gs_X6_52 (hZ.1) ?_
      refine AF.arraylengthT (v := nI 9) dX6_readCommand_16 hZ.2.1 rfl ?_
      have hYk := hY k (by omega)
      have hpr := prc_le (T := T) (p := pl) (c := k) (by omega) hp
      refine AF.icmp_ge 66 dX6_readCommand_17 (by decide) (fun hb => ?_) (fun hb => ?_)
      · rw [nI_leI (by omega) (by omega)] at hb
        omega
      · refine AF.aload_n dX6_readCommand_20 rfl ?_
        refine AF.iload_n dX6_readCommand_21 rfl ?_
        refine AF.putfieldF dX6_readCommand_22 fp_X6_19 h0 (by omega) (Nat.le_of_ble_eq_true rfl) rfl rfl (Or.inr fq_3_2) ?_
        intro F e9 h9 o9
        replace h1 := (o9 (b + 1) (by omega)).trans h1
        replace h2 := (o9 (b + 2) (by omega)).trans h2
        replace h0 := h9
        replace hfr := hfr.step e9 (by omega) (by omega) o9
        clear e9 h9 o9
        refine AF.aload_n dX6_readCommand_25 rfl ?_
        refine AF.getstatic dX6_readCommand_26 gs_X6_52 (hZ.1) ?_
        refine AF.iload_n dX6_readCommand_29 rfl ?_
        refine AF.aaloadT rfl k dX6_readCommand_30 hZ.2.1 rfl (by omega) (by decide) rfl ?_
        refine AF.getfieldC dX6_readCommand_31 gs_X6_56 hYk.2.2.1 ?_
        have hSk : TS G F b T pl cc cm ns' := ⟨tf, nf, ⟨h0, h1, h2⟩, hT, hN⟩
        refine AF.vw dX6_readCommand_34 kv_X6_60 (X6_fits_ok hSk ha hp hYk.2.2.2 (TX_pats k (by omega)) (pat_kct k (by omega))) (by assumption) rfl rfl rfl (Nat.le_of_ble_eq_true rfl) (by decide) rfl (fun E F9 q => nomatch q.1) (fun v F q => ?_)
        obtain ⟨q, hS2, q2⟩ := q
        cases q
        have hS2 : TS G F b T (prC T pl k).2.1 cc cm (prC T pl k).2.2 := hS2
        obtain ⟨tf2, nf2, ⟨h0, h1, h2⟩, hT2, hN2⟩ := id hS2
        replace hfr := hfr.trans q2 (Nat.le_refl _) (Nat.le_refl _)
        by_cases ho : (prC T pl k).1 = true
        · rw [show (ruR T (pats.getD k "") (true, pl, []) (pats.getD k "").toList.length).1 = true from ho]
          refine AF.if_eq 51 dX6_readCommand_37 (by decide) (fun hc => ?_) (fun hc => ?_)
          · exact absurd (show bI true = 0 from hc) (by decide)
          · have ec := cix_c (hpr.2 ho)
            refine AF.aload_n dX6_readCommand_40 rfl ?_
            refine AF.getstatic dX6_readCommand_41 gs_X6_52 (hZ.1) ?_
            refine AF.iload_n dX6_readCommand_44 rfl ?_
            refine AF.aaloadT rfl k dX6_readCommand_45 hZ.2.1 rfl (by omega) (by decide) rfl ?_
            refine AF.putfieldF dX6_readCommand_46 fp_X6_31 h0 (by omega) (Nat.le_of_ble_eq_true rfl) rfl rfl (Or.inr fq_3_4) ?_
            intro F e9 h9 o9
            replace h1 := (o9 (b + 1) (by omega)).trans h1
            replace h2 := (o9 (b + 2) (by omega)).trans h2
            replace h0 := h9
            replace hfr := hfr.step e9 (by omega) (by omega) o9
            clear e9 h9 o9
            refine AF.iconst (1) dX6_readCommand_49 (by decide) ?_
            refine AF.zreturn dX6_readCommand_50 rfl rfl ⟨by rw [ec.1, ho]; rfl, ⟨k, (prC T pl k).2.2, ?_, fun _ => ⟨ec.2.symm, by rw [ec.1]⟩⟩, hfr⟩
            rw [ec.1]
            exact ⟨tf2, nf2, ⟨h0, h1, h2⟩, hT2, hN2⟩
        · have ho : (prC T pl k).1 = false := by simpa using ho
          rw [show (ruR T (pats.getD k "") (true, pl, []) (pats.getD k "").toList.length).1 = false from ho]
          refine AF.if_eq 51 dX6_readCommand_37 (by decide) (fun hc => ?_) (fun hc => ?_)
          · refine AF.iload_n dX6_readCommand_51 rfl ?_
            refine AF.aload_n dX6_readCommand_52 rfl ?_
            refine AF.getfield dX6_readCommand_53 fl_X6_19 (by assumption) rfl ?_
            refine AF.max dX6_readCommand_56 km_X6_64 (Nat.le_of_ble_eq_true rfl) (by decide) ?_
            have hm : (if nI fu < nI (prC T pl k).2.1 then nI (prC T pl k).2.1 else nI fu) = nI (max fu (prC T pl k).2.1) := by
              by_cases q : fu < (prC T pl k).2.1
              · rw [if_pos (by rw [nI_ltI (by omega) (by omega)]; exact q), Nat.max_eq_right (by omega)]
              · rw [if_neg (by rw [nI_ltI (by omega) (by omega)]; exact q), Nat.max_eq_left (by omega)]
            rw [hm]
            refine AF.istore_n dX6_readCommand_59 (by decide) ?_
            refine AF.inc1 dX6_readCommand_60 rfl (by decide) ?_
            refine AF.goto 12 dX6_readCommand_63 (by decide) ?_
            refine ih (k + 1) _ F _ _ (by omega) hS2 (by omega) (by omega) (fun i hi => ?_) hfr
            by_cases e : i = k
            · subst e; exact ⟨ho, by omega⟩
            · have := hall i (by omega)
              exact ⟨this.1, by omega⟩
          · exact absurd rfl hc
  obtain ⟨tf, nf, ⟨h0, h1, h2⟩, hT, hN⟩ := id hS
  refine AF.aload_n dX6_readCommand_0 rfl ?_
  refine AF.getfield dX6_readCommand_1 fl_X6_19 (by assumption) rfl ?_
  refine AF.istore_n dX6_readCommand_4 (by decide) ?_
  refine AF.aload_n dX6_readCommand_5 rfl ?_
  refine AF.getfield dX6_readCommand_6 fl_X6_19 (by assumption) rfl ?_
  refine AF.istore_n dX6_readCommand_9 (by decide) ?_
  refine AF.iconst (nI 0) dX6_readCommand_10 (by decide) ?_
  refine AF.istore_n dX6_readCommand_11 (by decide) ?_
  exact loop 9 0 pl F0 pl ns rfl hS (Nat.le_refl _) hcl.2 (fun i hi => absurd hi (Nat.not_lt_zero _)) hfr
def TFq (G : GA) (b : Nat) (T : List Int32) (F0 : AH) : AR → AH → Prop := fun r F' => r = .inl (some (.int (if (psT T 61 0).1 = true then -1 else nI (psT T 61 0).2.1))) ∧ (∃ pl' cc' cm' ns', pl' ≤ T.length ∧ TS G F' b T pl' cc' cm' ns' ∧ ((psT T 61 0).1 = true → cc' = (psT T 61 0).2.2.length)) ∧ Fr b (b + 3) F0 F'
set_option maxRecDepth 100000 in
set_option maxHeartbeats 4000000 in
theorem X6_findError_ok {F0 : AH} (hS : TS G F0 b T pl cc cm ns) (ha : gN G ≤ b) : AC G mX6_findError 6 0 0 [.ref b] F0 (TFq G b T F0) := by
  refine AC.of [some (.ref b)] rfl (by decide) (Nat.le_of_ble_eq_true rfl) rfl ?_
  have h60 : T.length ≤ 60 := by obtain ⟨tf, nf, -, hT, -⟩ := hS; exact hT.1
  have hfr : Fr b (b + 3) F0 F0 := Fr.rf
  have loop : ∀ n p c F1 cm ns, c + n = 61 → 1 ≤ c → 2 * (c - 1) ≤ p → p ≤ T.length → ((psT T 61 0).1 = (psT T (n + 1) p).1 ∧ (psT T 61 0).2.1 = (psT T (n + 1) p).2.1 ∧ (psT T 61 0).2.2.length = (psT T (n + 1) p).2.2.length + (c - 1)) → TS G F1 b T p c cm ns → Fr b (b + 3) F0 F1 → AF G mX6_findError 6 0 0 (TFq G b T F0) F1 10 [some (.ref b)] [] := by
    intro n
    induction n with
    | zero => intro p c F1 cm ns hcn hc1 h2 hp; omega
    | succ n ih =>
      intro p c F1 cm ns hcn hc1 h2c hp heq hS hfr
      have hle := cmS_le hp
      obtain ⟨tf, nf, ⟨h0, h1, h2⟩, hT, hN⟩ := id hS
      have hps : psT T (n + 1 + 1) p = (if (cmS T p).1 = false then (false, (cmS T p).2.1, []) else if hereT T (cmS T p).2.1 = 59 then ((psT T (n + 1) ((cmS T p).2.1 + 1)).1, (psT T (n + 1) ((cmS T p).2.1 + 1)).2.1, (cmC T p, (cmS T p).2.2) :: (psT T (n + 1) ((cmS T p).2.1 + 1)).2.2) else (decide ((cmS T p).2.1 = T.length), (cmS T p).2.1, [(cmC T p, (cmS T p).2.2)])) := rfl
      rw [hps] at heq
      refine AF.aload_n dX6_findError_10 rfl ?_
      refine AF.getfield dX6_findError_11 fl_X6_22 (by assumption) rfl ?_
      refine AF.bipush (nI 60) dX6_findError_14 (by decide) ?_
      refine AF.icmp_gt 64 dX6_findError_16 (by decide) (fun hb => ?_) (fun hb => ?_)
      · rw [nI_ltI (by omega) (by omega)] at hb
        omega
      · refine AF.aload_n dX6_findError_19 rfl ?_
        refine AF.vw dX6_findError_20 kv_X6_41 (X6_readCommand_ok hS ha hp) (by assumption) rfl rfl rfl (Nat.le_of_ble_eq_true rfl) (by decide) rfl (fun E F9 q => nomatch q.1) (fun v F q => ?_)
        obtain ⟨q, hS2, q2⟩ := q
        cases q
        obtain ⟨cm', ns', hS2, -⟩ := hS2
        obtain ⟨tf2, nf2, ⟨h0, h1, h2⟩, hT2, hN2⟩ := id hS2
        replace hfr := hfr.trans q2 (Nat.le_refl _) (Nat.le_refl _)
        by_cases ho : (cmS T p).1 = true
        · rw [if_neg (by rw [ho]; decide)] at heq
          have hadv := (cmS_adv hp ho).1
          rw [ho]
          refine AF.if_eq 64 dX6_findError_23 (by decide) (fun hb2 => ?_) (fun hb2 => ?_)
          · exact absurd (show bI true = 0 from hb2) (by decide)
          · refine AF.aload_n dX6_findError_26 rfl ?_
            refine AF.getfield dX6_findError_27 fl_X6_19 (by assumption) rfl ?_
            refine AF.aload_n dX6_findError_30 rfl ?_
            refine AF.getfield dX6_findError_31 fl_X6_15 (by assumption) rfl ?_
            refine AF.icmp_ne 39 dX6_findError_34 (by decide) (fun he => ?_) (fun he => ?_)
            · refine AF.aload_n dX6_findError_39 rfl ?_
              refine AF.vw dX6_findError_40 kv_X6_45 (X6_skipSemicolon_ok hS2 ha hle.1) (by assumption) rfl rfl rfl (Nat.le_of_ble_eq_true rfl) (by decide) rfl (fun E F9 q => nomatch q.1) (fun v F q => ?_)
              obtain ⟨q, hS3, q3⟩ := q
              cases q
              obtain ⟨tf3, nf3, ⟨h0, h1, h2⟩, hT3, hN3⟩ := id hS3
              replace hfr := hfr.trans q3 (Nat.le_refl _) (Nat.le_refl _)
              by_cases hs : hereT T (cmS T p).2.1 = 59
              · have e9 : chR T 59 (true, (cmS T p).2.1, ns') = (true, (cmS T p).2.1 + 1, ns') := if_pos ⟨rfl, hs⟩
                have hlt := hereT_lt (T := T) (p := (cmS T p).2.1) (by rw [hs]; decide)
                rw [e9] at hS3 h0 ⊢
                rw [if_pos hs] at heq
                refine AF.if_ne 51 dX6_findError_43 (by decide) (fun hb3 => ?_) (fun hb3 => ?_)
                · refine AF.aload_n dX6_findError_51 rfl ?_
                  refine AF.dup dX6_findError_52 rfl ?_
                  refine AF.getfield dX6_findError_53 fl_X6_22 (by assumption) rfl ?_
                  refine AF.iconst (nI 1) dX6_findError_56 (by decide) ?_
                  refine AF.iadd dX6_findError_57 ?_
                  rw [nI_add]
                  refine AF.putfieldF dX6_findError_58 fp_X6_22 h0 (by omega) (Nat.le_of_ble_eq_true rfl) rfl rfl (Or.inr fq_3_3) ?_
                  intro F e9 h9 o9
                  replace h1 := (o9 (b + 1) (by omega)).trans h1
                  replace h2 := (o9 (b + 2) (by omega)).trans h2
                  replace h0 := h9
                  replace hfr := hfr.step e9 (by omega) (by omega) o9
                  clear e9 h9 o9
                  refine AF.goto 10 dX6_findError_61 (by decide) ?_
                  refine ih ((cmS T p).2.1 + 1) (c + 1) F _ _ (by omega) (by omega) (by omega) (by omega) ⟨heq.1, heq.2.1, ?_⟩ ⟨tf3, nf3, ⟨h0, h1, h2⟩, hT3, hN3⟩ hfr
                  rw [heq.2.2, List.length_cons]
                  omega
                · exact absurd (show bI true = 0 from hb3) (by decide)
              · have e9 : chR T 59 (true, (cmS T p).2.1, ns') = (false, (cmS T p).2.1, ns') := if_neg (fun q => hs q.2)
                rw [e9] at hS3 h0 ⊢
                rw [if_neg hs] at heq
                have hne : ¬ (cmS T p).2.1 = T.length := fun q => he (by rw [q])
                have hf : (psT T 61 0).1 = false := by rw [heq.1]; exact decide_eq_false hne
                refine AF.if_ne 51 dX6_findError_43 (by decide) (fun hb3 => ?_) (fun hb3 => ?_)
                · exact absurd rfl hb3
                · refine AF.aload_n dX6_findError_46 rfl ?_
                  refine AF.getfield dX6_findError_47 fl_X6_19 (by assumption) rfl ?_
                  exact AF.ireturn dX6_findError_50 rfl ⟨by rw [if_neg (by rw [hf]; decide), heq.2.1], ⟨_, _, _, _, hle.1, hS3, fun q => by rw [hf] at q; cases q⟩, hfr⟩
            · have he : (cmS T p).2.1 = T.length := by rw [nI_eq (by omega) (by omega)] at he; exact he
              have hns : ¬ hereT T (cmS T p).2.1 = 59 := fun q => by
                have := hereT_lt (T := T) (p := (cmS T p).2.1) (by rw [q]; decide)
                omega
              rw [if_neg hns] at heq
              have hf : (psT T 61 0).1 = true := by rw [heq.1]; exact decide_eq_true he
              refine AF.iconst (-1) dX6_findError_37 (by decide) ?_
              refine AF.ireturn dX6_findError_38 rfl ⟨by rw [if_pos hf], ⟨_, _, _, _, hle.1, hS2, fun _ => ?_⟩, hfr⟩
              rw [heq.2.2]
              show c = 1 + (c - 1)
              omega
        · have ho : (cmS T p).1 = false := by simpa using ho
          rw [if_pos ho] at heq
          have hf : (psT T 61 0).1 = false := heq.1
          rw [ho]
          refine AF.if_eq 64 dX6_findError_23 (by decide) (fun hb2 => ?_) (fun hb2 => ?_)
          · refine AF.aload_n dX6_findError_64 rfl ?_
            refine AF.getfield dX6_findError_65 fl_X6_19 (by assumption) rfl ?_
            exact AF.ireturn dX6_findError_68 rfl ⟨by rw [if_neg (by rw [hf]; decide), heq.2.1], ⟨_, _, _, _, hle.1, hS2, fun q => by rw [hf] at q; cases q⟩, hfr⟩
          · exact absurd rfl hb2
  obtain ⟨tf, nf, ⟨h0, h1, h2⟩, hT, hN⟩ := hS
  refine AF.aload_n dX6_findError_0 rfl ?_
  refine AF.iconst (nI 0) dX6_findError_1 (by decide) ?_
  refine AF.putfieldF dX6_findError_2 fp_X6_19 h0 (by omega) (Nat.le_of_ble_eq_true rfl) rfl rfl (Or.inr fq_3_2) ?_
  intro F e9 h9 o9
  replace h1 := (o9 (b + 1) (by omega)).trans h1
  replace h2 := (o9 (b + 2) (by omega)).trans h2
  replace h0 := h9
  replace hfr := hfr.step e9 (by omega) (by omega) o9
  clear e9 h9 o9
  refine AF.aload_n dX6_findError_5 rfl ?_
  refine AF.iconst (nI 1) dX6_findError_6 (by decide) ?_
  refine AF.putfieldF dX6_findError_7 fp_X6_22 h0 (by omega) (Nat.le_of_ble_eq_true rfl) rfl rfl (Or.inr fq_3_3) ?_
  intro F e9 h9 o9
  replace h1 := (o9 (b + 1) (by omega)).trans h1
  replace h2 := (o9 (b + 2) (by omega)).trans h2
  replace h0 := h9
  replace hfr := hfr.step e9 (by omega) (by omega) o9
  clear e9 h9 o9
  exact loop 60 0 1 F cm ns rfl (Nat.le_refl _) (by omega) (Nat.zero_le _) ⟨rfl, rfl, rfl⟩ ⟨tf, nf, ⟨h0, h1, h2⟩, hT, hN⟩ hfr
end
section
variable {G : GA} {F : AH} {b : Nat}
set_option maxRecDepth 100000 in
theorem X6_init_ok (hF : F.2 b = some (.inr (3, [.null, .int 0, .int 0, .int 0, .null, .null, .int 0]))) (ha : gN G ≤ b) (hz : F.1 = b + 1) : AC G mX6_init 1 2 64 [.ref b] F (fun r F' => r = .inl none ∧ TS G F' b [] 0 0 4 [] ∧ Mk b (b + 3) F F') := by
  refine AC.of [some (.ref b)] rfl (by decide) (Nat.le_of_ble_eq_true rfl) rfl (AF.ok fun hG => ?_)
  have hZ := hG.2.2.2.2.2.2.1.2.2.2.1
  have s0 := hF
  have hmk : ∀ q, (q < b ∨ b + 3 ≤ q) → F.2 q = F.2 q := fun _ _ => rfl
  refine AF.aload_n dX6_init_0 rfl ?_
  refine AF.objInit dX6_init_1 ko_X6_3 (Nat.le_of_ble_eq_true rfl) (by decide) ?_
  refine AF.aload_n dX6_init_4 rfl ?_
  refine AF.bipush (nI 60) dX6_init_5 (by decide) ?_
  refine AF.newC (n := 60) (bc := 1) (bs := 4) dX6_init_7 aw_char (by first | rfl | decide) (by decide) ?_
  intro F e9 h9 o9
  rw [hz] at e9 h9 o9 ⊢
  replace hz : F.1 = b + 2 := e9
  replace s0 := (o9 (b) (by omega)).trans s0
  have h1 := h9
  replace hmk := fun q hq => (o9 q (by omega)).trans (hmk q hq)
  clear e9 h9 o9
  refine AF.putfieldF dX6_init_9 fp_X6_9 s0 (by omega) (Nat.le_of_ble_eq_true rfl) rfl rfl (Or.inl rfl) ?_
  intro F e9 h9 o9
  replace h1 := (o9 (b + 1) (by omega)).trans h1
  replace s0 := h9
  replace hmk := fun q hq => (o9 q (by omega)).trans (hmk q hq)
  replace hz := e9.trans hz
  clear e9 h9 o9
  refine AF.aload_n dX6_init_12 rfl ?_
  refine AF.iconst (nI 0) dX6_init_13 (by decide) ?_
  refine AF.putfieldF dX6_init_14 fp_X6_15 s0 (by omega) (Nat.le_of_ble_eq_true rfl) rfl rfl (Or.inr fq_3_1) ?_
  intro F e9 h9 o9
  replace h1 := (o9 (b + 1) (by omega)).trans h1
  replace s0 := h9
  replace hmk := fun q hq => (o9 q (by omega)).trans (hmk q hq)
  replace hz := e9.trans hz
  clear e9 h9 o9
  refine AF.aload_n dX6_init_17 rfl ?_
  refine AF.iconst (nI 0) dX6_init_18 (by decide) ?_
  refine AF.putfieldF dX6_init_19 fp_X6_19 s0 (by omega) (Nat.le_of_ble_eq_true rfl) rfl rfl (Or.inr fq_3_2) ?_
  intro F e9 h9 o9
  replace h1 := (o9 (b + 1) (by omega)).trans h1
  replace s0 := h9
  replace hmk := fun q hq => (o9 q (by omega)).trans (hmk q hq)
  replace hz := e9.trans hz
  clear e9 h9 o9
  refine AF.aload_n dX6_init_22 rfl ?_
  refine AF.iconst (nI 0) dX6_init_23 (by decide) ?_
  refine AF.putfieldF dX6_init_24 fp_X6_22 s0 (by omega) (Nat.le_of_ble_eq_true rfl) rfl rfl (Or.inr fq_3_3) ?_
  intro F e9 h9 o9
  replace h1 := (o9 (b + 1) (by omega)).trans h1
  replace s0 := h9
  replace hmk := fun q hq => (o9 q (by omega)).trans (hmk q hq)
  replace hz := e9.trans hz
  clear e9 h9 o9
  refine AF.aload_n dX6_init_27 rfl ?_
  refine AF.getstatic dX6_init_28 gs_X6_25 (hZ.2.2) ?_
  refine AF.putfieldF dX6_init_31 fp_X6_31 s0 (by omega) (Nat.le_of_ble_eq_true rfl) rfl rfl (Or.inr fq_3_4) ?_
  intro F e9 h9 o9
  replace h1 := (o9 (b + 1) (by omega)).trans h1
  replace s0 := h9
  replace hmk := fun q hq => (o9 q (by omega)).trans (hmk q hq)
  replace hz := e9.trans hz
  clear e9 h9 o9
  refine AF.aload_n dX6_init_34 rfl ?_
  refine AF.iconst (nI 4) dX6_init_35 (by decide) ?_
  refine AF.newI (n := 4) (bc := 0) (bs := 0) dX6_init_36 aw_int (by first | rfl | decide) (by decide) ?_
  intro F e9 h9 o9
  rw [hz] at e9 h9 o9 ⊢
  replace hz : F.1 = b + 3 := e9
  replace s0 := (o9 (b) (by omega)).trans s0
  replace h1 := (o9 (b + 1) (by omega)).trans h1
  have h2 := h9
  replace hmk := fun q hq => (o9 q (by omega)).trans (hmk q hq)
  clear e9 h9 o9
  refine AF.putfieldF dX6_init_38 fp_X6_34 s0 (by omega) (Nat.le_of_ble_eq_true rfl) rfl rfl (Or.inl rfl) ?_
  intro F e9 h9 o9
  replace h1 := (o9 (b + 1) (by omega)).trans h1
  replace h2 := (o9 (b + 2) (by omega)).trans h2
  replace s0 := h9
  replace hmk := fun q hq => (o9 q (by omega)).trans (hmk q hq)
  replace hz := e9.trans hz
  clear e9 h9 o9
  refine AF.aload_n dX6_init_41 rfl ?_
  refine AF.iconst (nI 0) dX6_init_42 (by decide) ?_
  refine AF.putfieldF dX6_init_43 fp_X6_38 s0 (by omega) (Nat.le_of_ble_eq_true rfl) rfl rfl (Or.inr fq_3_6) ?_
  intro F e9 h9 o9
  replace h1 := (o9 (b + 1) (by omega)).trans h1
  replace h2 := (o9 (b + 2) (by omega)).trans h2
  replace s0 := h9
  replace hmk := fun q hq => (o9 q (by omega)).trans (hmk q hq)
  replace hz := e9.trans hz
  clear e9 h9 o9
  exact AF.vreturn dX6_init_46 rfl ⟨rfl, ⟨_, _, ⟨s0, h1, h2⟩, ⟨Nat.zero_le _, fun i hi => absurd hi (Nat.not_lt_zero _)⟩, Nat.zero_le _, fun i hi => absurd hi (Nat.not_lt_zero _)⟩, hz, hmk⟩
end

