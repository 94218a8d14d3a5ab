/-! The show: execute. -/
theorem fnd_lt {P : Nat → Bool} {n k : Nat} (h : fnd P n = some k) : k < n := by
  unfold fnd at h
  rw [List.find?_range_eq_some] at h
  exact List.mem_range.mp h.2.1
theorem pCm_lt {σ : Sg} {c : Nat} {ns : List Int32} : pCm σ c ns < 5 := by
  unfold pCm
  split
  · have := pAdd_v (J := σ.J) (x := ar ns 0); omega
  · have := pOpn_v (n := σ.J.length) (x := ar ns 0) (y := ar ns 1); omega
  · have := pCap_v (x := ar ns 0); omega
  · have := pWnd_v (x := ar ns 0); omega
  · omega
  · split <;> omega
  · have := pStp_v (σ := σ) (x := ar ns 0) (y := ar ns 1) (z := ar ns 2) (u := ar ns 3); omega
  · have := pPly_v (σ := σ) (x := ar ns 0) (y := ar ns 1); omega
  · have := pPas_v (x := ar ns 0); omega
theorem psT_place {T : List Int32} : ∀ n p, p ≤ T.length → (psT T n p).2.1 ≤ T.length ∧ (psT T n p).2.2.length ≤ n
  | 0, p, h => ⟨h, Nat.le_refl _⟩
  | n + 1, p, h => by
    have hle := cmS_le h
    simp only [psT]
    split
    · exact ⟨hle.1, Nat.zero_le _⟩
    · split
      · rename_i q
        have hlt := hereT_lt (T := T) (p := (cmS T p).2.1) (by rw [q]; decide)
        have ih := psT_place (T := T) n ((cmS T p).2.1 + 1) (by omega)
        exact ⟨ih.1, by simp only [List.length_cons]; omega⟩
      · exact ⟨hle.1, by simp only [List.length_cons, List.length_nil]; omega⟩
/-- what stands at p is k's command and the next ones -/
def psL (T : List Int32) (L : List (Nat × List Int32)) (k p : Nat) : Prop := ∃ n, (psT T n p).1 = true ∧ (psT T n p).2.2 = L.drop k
theorem psL_step {T : List Int32} {L : List (Nat × List Int32)} {k p : Nat} (hk : k < L.length) (h : psL T L k p) : (cmS T p).1 = true ∧ cmd L k = (cmC T p, (cmS T p).2.2) ∧ (k + 1 < L.length → hereT T (cmS T p).2.1 = 59 ∧ psL T L (k + 1) ((cmS T p).2.1 + 1)) := by
  obtain ⟨n, h1, h2⟩ := h
  cases n with
  | zero => cases h1
  | succ n =>
    have hd : ∀ a t, L.drop k = a :: t → cmd L k = a ∧ L.drop (k + 1) = t := by
      intro a t e
      have e1 : L.drop (k + 1) = (L.drop k).drop 1 := by simp [List.drop_drop, Nat.add_comm]
      have e2 : L[k]? = (L.drop k)[0]? := by simp [List.getElem?_drop]
      rw [e] at e1 e2
      refine ⟨?_, e1⟩
      rw [cmd, List.getD_eq_getElem?_getD, e2]
      rfl
    have hl : (L.drop k).length = L.length - k := by simp
    simp only [psT] at h1 h2
    cases ho : (cmS T p).1 with
    | false =>
      rw [ho, if_pos rfl] at h1
      cases h1
    | true =>
      rw [ho, if_neg (by decide)] at h1 h2
      by_cases hs : hereT T (cmS T p).2.1 = 59
      · rw [if_pos hs] at h1 h2
        obtain ⟨a1, a2⟩ := hd _ _ h2.symm
        exact ⟨rfl, a1, fun _ => ⟨hs, n, h1, a2.symm⟩⟩
      · rw [if_neg hs] at h1 h2
        obtain ⟨a1, a2⟩ := hd _ _ h2.symm
        refine ⟨rfl, a1, fun q => ?_⟩
        rw [← h2] at hl
        simp only [List.length_cons, List.length_nil] at hl
        omega
theorem nI_nm {k : Nat} (h : k < 2 ^ 31) : ¬ nI k = -1 := fun e => by
  have e2 : (nI k).toInt = (-1 : Int32).toInt := by rw [e]
  rw [nI_toInt h, show (-1 : Int32).toInt = -1 by decide] at e2
  omega
section
variable {G : GA} {F F0 F' : AH} {c bv B : Nat} {X : XS}
def PUq (G : GA) (c bv : Nat) (X : XS) (L : List (Nat × List Int32)) (F0 : AH) : AR → AH → Prop := fun r F' => r = .inl (some (.int (nI (match fL X.sg L with | some k => k | none => L.length)))) ∧ CX G F' c bv X ∧ (∃ pl cm ns, TS G F' (c + 38) X.tx pl L.length cm ns) ∧ (∃ τ, SA G F' (c + 12) τ ∧ (fL X.sg L = none → τ = dK X.sg L L.length)) ∧ Fr c (c + 131) F0 F'
set_option maxRecDepth 100000 in
set_option maxHeartbeats 8000000 in
theorem X8_performUntilProblem_ok {pl cm : Nat} {ns : List Int32} {L : List (Nat × List Int32)} (hC : CX G F0 c bv X) (ha : gN G ≤ c) (hT : TS G F0 (c + 38) X.tx pl L.length cm ns) (hS : SA G F0 (c + 12) X.sg) (hI : SQ X.sg B) (hB : B + 2480 ≤ 2 ^ 21) (hL : L.length ≤ 61) (hp : psL X.tx L 0 0) : AC G mX8_performUntilProblem 6 0 0 [.ref c] F0 (PUq G c bv X L F0) := by
  have hC0 := hC
  obtain ⟨hn, hf, ⟨c0, -⟩, -⟩ := hC
  obtain ⟨tf, nf, ⟨k0, k1, k2⟩, kT, kN⟩ := id hT
  refine AC.of [some (.ref c), none] rfl (by decide) (Nat.le_of_ble_eq_true rfl) rfl (AF.ok fun hK => ?_)
  have hinj := hK.2.2.2.2.2.2.1.2.1
  have loop : ∀ r k pl cm ns F1, k + r = L.length → CX G F1 c bv X → TS G F1 (c + 38) X.tx pl L.length cm ns → pl ≤ X.tx.length → SA G F1 (c + 12) (dK X.sg L k) → Fr c (c + 131) F0 F1 → (∀ i, i < k → bad X.sg L i = false) → (k < L.length → psL X.tx L k pl) → AF G mX8_performUntilProblem 6 0 0 (PUq G c bv X L F0) F1 10 [some (.ref c), some (.int (nI k))] [] := by
    intro r
    induction r with
    | zero =>
      intro k pl cm ns F1 hk hC1 hT1 hpl hS1 q1 hb hps
      obtain rfl : k = L.length := by omega
      obtain ⟨hn, hf, ⟨c0, -⟩, -⟩ := id hC1
      obtain ⟨tf, nf, ⟨k0, k1, k2⟩, kT, kN⟩ := id hT1
      have e9 : fL X.sg L = none := fnd_none hb
      refine AF.iload_n dX8_performUntilProblem_10 rfl ?_
      refine AF.aload_n dX8_performUntilProblem_11 rfl ?_
      refine AF.getfield dX8_performUntilProblem_12 fl_X8_47 (by assumption) rfl ?_
      refine AF.getfield dX8_performUntilProblem_15 fl_X8_339 (by assumption) rfl ?_
      refine AF.icmp_ge 93 dX8_performUntilProblem_18 (by decide) (fun c1 => ?_) (fun c1 => ?_)
      · refine AF.aload_n dX8_performUntilProblem_93 rfl ?_
        refine AF.getfield dX8_performUntilProblem_94 fl_X8_47 (by assumption) rfl ?_
        refine AF.getfield dX8_performUntilProblem_97 fl_X8_339 (by assumption) rfl ?_
        exact AF.ireturn dX8_performUntilProblem_100 rfl ⟨by rw [e9], hC1, ⟨_, _, _, hT1⟩, ⟨_, hS1, fun _ => rfl⟩, q1⟩
      · exact absurd (Int32.le_refl _) c1
    | succ r ih =>
      intro k pl cm ns F1 hk hC1 hT1 hpl hS1 q1 hb hps
      obtain ⟨p1, p2, p3⟩ := psL_step (by omega) (hps (by omega))
      obtain ⟨-, a2, a3⟩ := cmS_adv hpl p1
      have hle := cmS_le hpl
      obtain ⟨hn, hf, ⟨c0, -⟩, -⟩ := id hC1
      obtain ⟨tf, nf, ⟨k0, k1, k2⟩, kT, kN⟩ := id hT1
      refine AF.iload_n dX8_performUntilProblem_10 rfl ?_
      refine AF.aload_n dX8_performUntilProblem_11 rfl ?_
      refine AF.getfield dX8_performUntilProblem_12 fl_X8_47 (by assumption) rfl ?_
      refine AF.getfield dX8_performUntilProblem_15 fl_X8_339 (by assumption) rfl ?_
      refine AF.icmp_ge 93 dX8_performUntilProblem_18 (by decide) (fun c1 => ?_) (fun c1 => ?_)
      · rw [nI_leI (by omega) (by omega)] at c1
        omega
      · refine AF.aload_n dX8_performUntilProblem_21 rfl ?_
        refine AF.getfield dX8_performUntilProblem_22 fl_X8_47 (by assumption) rfl ?_
        refine AF.vw dX8_performUntilProblem_25 kv_X8_402 (X6_readCommand_ok hT1 (by omega) hpl) (by assumption) rfl rfl rfl (Nat.le_of_ble_eq_true rfl) (by decide) rfl (fun E F9 q => nomatch q.1) (fun v F q => ?_)
        obtain ⟨q, ⟨cm2, ns2, hT2, hc2⟩, q2⟩ := q
        cases q
        obtain ⟨rfl, rfl⟩ := hc2 p1
        have hC2 := hC1.scr ⟨_, _, _, _, hT2⟩ q2
        have hC2 : CX G F c bv X := hC2
        have hS2 := hS1.fr q2 (by omega)
        have q3 := q1.trans q2 (show c ≤ c + 38 by omega) (by omega)
        clear c0 k0 k1 k2
        obtain ⟨hn, hf, ⟨c0, -⟩, -⟩ := id hC2
        obtain ⟨tf2, nf2, ⟨k0, k1, k2⟩, kT2, kN2⟩ := id hT2
        obtain ⟨ef, es, ⟨t0, -⟩, -, -⟩ := id hS2
        have hN : NS G F (c + 38 + 2) (cmS X.tx pl).2.2 := ⟨nf2, k2, kN2⟩
        have hcA : cmA L k = tdA (cmC X.tx pl) (cmS X.tx pl).2.2 := by unfold cmA; rw [p2]
        have hcm : (cmd L k).1 = cmC X.tx pl := by rw [p2]
        refine AF.pop dX8_performUntilProblem_28 rfl ?_
        refine AF.aload_n dX8_performUntilProblem_29 rfl ?_
        refine AF.getfield dX8_performUntilProblem_30 fl_X8_16 (by assumption) rfl ?_
        refine AF.aload_n dX8_performUntilProblem_33 rfl ?_
        refine AF.getfield dX8_performUntilProblem_34 fl_X8_47 (by assumption) rfl ?_
        refine AF.getfield dX8_performUntilProblem_37 fl_X8_405 (by assumption) rfl ?_
        refine AF.aload_n dX8_performUntilProblem_40 rfl ?_
        refine AF.getfield dX8_performUntilProblem_41 fl_X8_47 (by assumption) rfl ?_
        refine AF.getfield dX8_performUntilProblem_44 fl_X8_409 (by assumption) rfl ?_
        refine AF.v1 dX8_performUntilProblem_47 kv_X8_412 ((X7_problemOf_ok hS2 hN a2 a3)) (by assumption) rfl rfl rfl (Nat.le_of_ble_eq_true rfl) (by decide) rfl ?_
        refine AF.getstatic dX8_performUntilProblem_50 gs_X8_416 (pz hK 0 (by decide)) ?_
        have hv : pCm (dK X.sg L k) (cmC X.tx pl) (tdA (cmC X.tx pl) (cmS X.tx pl).2.2) < 5 := pCm_lt
        refine AF.acmp_eq 58 dX8_performUntilProblem_53 (by decide) (fun c2 => ?_) (fun c2 => ?_)
        · have e0 := hinj _ _ hv (by omega) c2
          have hgood : bad X.sg L k = false := by
            unfold bad
            rw [hcA, hcm, e0]
            rfl
          have hQ := hI.dK (L := L) k (by omega) hb
          refine AF.aload_n dX8_performUntilProblem_58 rfl ?_
          refine AF.getfield dX8_performUntilProblem_59 fl_X8_16 (by assumption) rfl ?_
          refine AF.aload_n dX8_performUntilProblem_62 rfl ?_
          refine AF.getfield dX8_performUntilProblem_63 fl_X8_47 (by assumption) rfl ?_
          refine AF.getfield dX8_performUntilProblem_66 fl_X8_405 (by assumption) rfl ?_
          refine AF.aload_n dX8_performUntilProblem_69 rfl ?_
          refine AF.getfield dX8_performUntilProblem_70 fl_X8_47 (by assumption) rfl ?_
          refine AF.getfield dX8_performUntilProblem_73 fl_X8_409 (by assumption) rfl ?_
          refine AF.vw dX8_performUntilProblem_76 kv_X8_420 (X7_carryOut_ok hS2 (by omega) hN a2 a3 hQ (by omega) e0) (by assumption) rfl rfl rfl (Nat.le_of_ble_eq_true rfl) (by decide) rfl (fun E F9 q => nomatch q.1) (fun v F q => ?_)
          obtain ⟨q, hS3, q4⟩ := q
          cases q
          have hS3 : SA G F (c + 12) (dK X.sg L (k + 1)) := by
            show SA G F (c + 12) (aCm (dK X.sg L k) (cmd L k).1 (cmA L k))
            rw [hcA, hcm]
            exact hS3
          have hC3 := hC2.trl hS3 q4
          have hT3 := hT2.fr q4 (by omega)
          have q5 := q3.trans q4 (show c ≤ c + 12 by omega) (by omega)
          clear c0 k0 k1 k2 t0
          obtain ⟨hn, hf, ⟨c0, -⟩, -⟩ := id hC3
          obtain ⟨tf3, nf3, ⟨k0, k1, k2⟩, kT3, kN3⟩ := id hT3
          refine AF.aload_n dX8_performUntilProblem_79 rfl ?_
          refine AF.getfield dX8_performUntilProblem_80 fl_X8_47 (by assumption) rfl ?_
          refine AF.vw dX8_performUntilProblem_83 kv_X8_424 (X6_skipSemicolon_ok hT3 (by omega) hle.1) (by assumption) rfl rfl rfl (Nat.le_of_ble_eq_true rfl) (by decide) rfl (fun E F9 q => nomatch q.1) (fun v F q => ?_)
          obtain ⟨q, hT4, q6⟩ := q
          cases q
          have hC4 := hC3.scr ⟨_, _, _, _, hT4⟩ q6
          have hC4 : CX G F c bv X := hC4
          have hS4 := hS3.fr q6 (by omega)
          have q7 := q5.trans q6 (show c ≤ c + 38 by omega) (by omega)
          refine AF.pop dX8_performUntilProblem_86 rfl ?_
          refine AF.inc1 dX8_performUntilProblem_87 rfl (by decide) ?_
          refine AF.goto 10 dX8_performUntilProblem_90 (by decide) ?_
          refine ih (k + 1) _ _ _ F (by omega) hC4 hT4 ?_ hS4 q7 (fun i hi => ?_) (fun hk1 => ?_)
          · exact (chR_le (s := (true, (cmS X.tx pl).2.1, (cmS X.tx pl).2.2)) hle.1 (by decide)).1
          · by_cases e : i = k
            · rw [e]; exact hgood
            · exact hb i (by omega)
          · obtain ⟨w1, w2⟩ := p3 hk1
            rw [show chR X.tx 59 (true, (cmS X.tx pl).2.1, (cmS X.tx pl).2.2) = (true, (cmS X.tx pl).2.1 + 1, (cmS X.tx pl).2.2) from if_pos ⟨rfl, w1⟩]
            exact w2
        · have hbad : bad X.sg L k = true := bad_t (by
            rw [hcA, hcm]
            exact fun e => c2 (by rw [e]))
          have e9 : fL X.sg L = some k := fnd_some hbad (by omega) hb
          refine AF.iload_n dX8_performUntilProblem_56 rfl ?_
          exact AF.ireturn dX8_performUntilProblem_57 rfl ⟨by rw [e9], hC2, ⟨_, _, _, hT2⟩, ⟨_, hS2, fun e => by rw [e9] at e; cases e⟩, q3⟩
  refine AF.aload_n dX8_performUntilProblem_0 rfl ?_
  refine AF.getfield dX8_performUntilProblem_1 fl_X8_47 (by assumption) rfl ?_
  refine AF.iconst (0) dX8_performUntilProblem_4 (by decide) ?_
  refine AF.putfieldF dX8_performUntilProblem_5 fp_X8_399 k0 (by omega) (Nat.le_of_ble_eq_true rfl) rfl rfl (Or.inr fq_3_2) ?_
  intro F e9 h9 o9
  have hT2 : TS G F (c + 38) X.tx 0 L.length cm ns := ⟨tf, nf, ⟨h9, (o9 (c + 38 + 1) (by omega)).trans k1, (o9 (c + 38 + 2) (by omega)).trans k2⟩, kT, kN⟩
  have q2 : Fr (c + 38) (c + 41) F0 F := Fr.rf.step e9 (by omega) (by omega) o9
  have hC2 := hC0.scr ⟨_, _, _, _, hT2⟩ q2
  refine AF.iconst (nI 0) dX8_performUntilProblem_8 (by decide) ?_
  refine AF.istore_n dX8_performUntilProblem_9 (by decide) ?_
  exact loop L.length 0 0 cm ns F (by omega) hC2 hT2 (Nat.zero_le _) (hS.fr q2 (by omega)) (q2.wide (by omega) (by omega)) (fun i hi => absurd hi (Nat.not_lt_zero _)) (fun _ => hp)
set_option maxRecDepth 100000 in
set_option maxHeartbeats 4000000 in
theorem X8_execute_ok (hC : CX G F0 c bv X) (ha : gN G ≤ c) (hI : SQ X.sg B) (hB : B + 2480 ≤ 2 ^ 21) : AC G mX8_execute 11 1 6 [.ref c] F0 (XQ G c bv (exX X) (rx [eAr, eUn] (exC X) (.int (nI (exP X).2.2.length))) F0) := by
  have hC0 := hC
  obtain ⟨hn, hf, ⟨c0, -⟩, -, -, -, -, -, -, ⟨pl, cc, cm, ns, hT⟩, -⟩ := hC
  obtain ⟨tf, nf, ⟨k0, -⟩, -⟩ := id hT
  have hpl := psT_place (T := X.tx) 61 0 (Nat.zero_le _)
  have h60 : X.tx.length ≤ 60 := by obtain ⟨tf, nf, -, hT, -⟩ := hT; exact hT.1
  refine AC.of [some (.ref c), none, none] rfl (by decide) (Nat.le_of_ble_eq_true rfl) rfl ?_
  refine AF.aload_n dX8_execute_0 rfl ?_
  refine AF.getfield dX8_execute_1 fl_X8_47 (by assumption) rfl ?_
  refine AF.vw dX8_execute_4 kv_X8_326 (X6_findError_ok hT (by omega)) (by assumption) rfl rfl rfl (Nat.le_of_ble_eq_true rfl) (by decide) rfl (fun E F9 q => nomatch q.1) (fun v F q => ?_)
  obtain ⟨q, ⟨pl2, cc2, cm2, ns2, hp2, hT2, hc2⟩, q2⟩ := q
  cases q
  have hC2 := hC0.scr ⟨_, _, _, _, hT2⟩ q2
  have hC2 : CX G F c bv X := hC2
  clear c0 k0
  by_cases ho : (psT X.tx 61 0).1 = true
  · rw [if_pos ho]
    have hcc := hc2 ho
    subst hcc
    have hoe : ¬ (exP X).1 = false := fun q => Bool.noConfusion (ho.symm.trans q)
    obtain ⟨L, hL⟩ : ∃ L, L = (exP X).2.2 := ⟨_, rfl⟩
    have hL' : (psT X.tx 61 0).2.2 = L := hL.symm
    have hl61 : L.length ≤ 61 := by rw [hL]; exact hpl.2
    have hps : psL X.tx L 0 0 := ⟨61, ho, hL'⟩
    rw [hL'] at hT2
    rw [← hL]
    obtain ⟨hn, hf, ⟨c0, -⟩, -, hS, ⟨τ, hTr⟩, -⟩ := id hC2
    obtain ⟨ef, es, ⟨t0, -⟩, -, -⟩ := id hTr
    refine AF.istore_n dX8_execute_7 (by decide) ?_
    refine AF.iload_n dX8_execute_8 rfl ?_
    refine AF.iconst (-1) dX8_execute_9 (by decide) ?_
    refine AF.icmp_eq 37 dX8_execute_10 (by decide) (fun c1 => ?_) (fun c1 => ?_)
    · refine AF.aload_n dX8_execute_37 rfl ?_
      refine AF.getfield dX8_execute_38 fl_X8_16 (by assumption) rfl ?_
      refine AF.aload_n dX8_execute_41 rfl ?_
      refine AF.getfield dX8_execute_42 fl_X8_10 (by assumption) rfl ?_
      refine AF.vw dX8_execute_45 kv_X8_277 (X7_copyFrom_ok hTr hS (by omega) (by omega)) (by assumption) rfl rfl rfl (Nat.le_of_ble_eq_true rfl) (by decide) rfl (fun E F9 q => nomatch q.1) (fun v F q => ?_)
      obtain ⟨q, hN, q3⟩ := q
      cases q
      have hC3 := hC2.trl hN q3
      have hT3 := hT2.fr q3 (by omega)
      clear c0 t0 hS hTr
      obtain ⟨hn, hf, ⟨c0, -⟩, -⟩ := id hC3
      refine AF.aload_n dX8_execute_48 rfl ?_
      refine AF.vw dX8_execute_49 kv_X8_336 (X8_performUntilProblem_ok hC3 ha hT3 hN hI hB hl61 hps) (by assumption) rfl rfl rfl (Nat.le_of_ble_eq_true rfl) (by decide) rfl (fun E F9 q => nomatch q.1) (fun v F q => ?_)
      obtain ⟨q, hC4, ⟨pl4, cm4, ns4, hT4⟩, ⟨τ4, hS4, hd4⟩, q4⟩ := q
      cases q
      have q5 : Fr c (c + 131) F0 F := ((q2.wide (show c ≤ c + 38 by omega) (show c + 38 + 3 ≤ c + 131 by omega)).trans (q3.wide (show c ≤ c + 12 by omega) (show c + 12 + 11 ≤ c + 131 by omega)) (Nat.le_refl _) (Nat.le_refl _)).trans q4 (Nat.le_refl _) (Nat.le_refl _)
      clear c0
      obtain ⟨hn, hf, ⟨c0, -⟩, -⟩ := id hC4
      obtain ⟨tf4, nf4, ⟨k0, k1, k2⟩, kT, kN⟩ := id hT4
      obtain ⟨pr, hpr⟩ : ∃ pr, pr = (match fL X.sg L with | some k => k | none => L.length) := ⟨_, rfl⟩
      have hprl : pr ≤ L.length := by
        rw [hpr]
        split
        · rename_i e
          have := fnd_lt e
          omega
        · exact Nat.le_refl _
      rw [← hpr]
      refine AF.istore_n dX8_execute_52 (by decide) ?_
      refine AF.aload_n dX8_execute_53 rfl ?_
      refine AF.getfield dX8_execute_54 fl_X8_47 (by assumption) rfl ?_
      refine AF.iconst (0) dX8_execute_57 (by decide) ?_
      refine AF.putfieldF dX8_execute_58 fp_X8_329 k0 (by omega) (Nat.le_of_ble_eq_true rfl) rfl rfl (Or.inr fq_3_1) ?_
      intro F5 e9 h9 o9
      have hT5 : TS G F5 (c + 38) [] pl4 L.length cm4 ns4 := ⟨tf4, nf4, ⟨h9, (o9 (c + 38 + 1) (by omega)).trans k1, (o9 (c + 38 + 2) (by omega)).trans k2⟩, ⟨Nat.zero_le _, fun i hi => absurd hi (Nat.not_lt_zero _)⟩, kN⟩
      have q6 : Fr (c + 38) (c + 41) F F5 := Fr.rf.step e9 (by omega) (by omega) o9
      have hC5 := hC4.scr ⟨_, _, _, _, hT5⟩ q6
      have q7 := q5.trans q6 (show c ≤ c + 38 by omega) (by omega)
      have hS5 := hS4.fr q6 (by omega)
      clear c0 k0 k1 k2
      have k0 := h9
      obtain ⟨hn, hf, ⟨c0, c34⟩, hh, hSg, hTr, hV, hR, hLs, -, hO⟩ := id hC5
      refine AF.iload_n dX8_execute_61 rfl ?_
      refine AF.aload_n dX8_execute_62 rfl ?_
      refine AF.getfield dX8_execute_63 fl_X8_47 (by assumption) rfl ?_
      refine AF.getfield dX8_execute_66 fl_X8_339 (by assumption) rfl ?_
      refine AF.icmp_ge 88 dX8_execute_69 (by decide) (fun c2 => ?_) (fun c2 => ?_)
      · rw [nI_leI (by omega) (by omega)] at c2
        have e9 : fL X.sg L = none := by
          cases e : fL X.sg L with
          | none => rfl
          | some k =>
            have := fnd_lt e
            rw [e] at hpr
            dsimp only at hpr
            omega
        rw [e9] at hpr
        dsimp only at hpr
        have hd := hd4 e9
        subst hd
        refine AF.aload_n dX8_execute_88 rfl ?_
        refine AF.vw dX8_execute_89 kv_X8_78 (X8_remember_ok hC5 ha) (by assumption) rfl rfl rfl (Nat.le_of_ble_eq_true rfl) (by decide) rfl (fun E F9 q => nomatch q.1) (fun v F q => ?_)
        obtain ⟨q, hC6, q8, hk8⟩ := q
        cases q
        have hS6 := hS5.kept (F' := F) (fun q a b => hk8 q (by omega) (by omega))
        have q9 := q7.trans q8 (Nat.le_refl _) (Nat.le_refl _)
        clear c0 c34 k0
        obtain ⟨hn, hf, ⟨c0, -⟩, -, hS, -⟩ := id hC6
        obtain ⟨ef, es, ⟨s0, -⟩, -, -⟩ := id hS
        refine AF.aload_n dX8_execute_92 rfl ?_
        refine AF.getfield dX8_execute_93 fl_X8_10 (by assumption) rfl ?_
        refine AF.aload_n dX8_execute_96 rfl ?_
        refine AF.getfield dX8_execute_97 fl_X8_16 (by assumption) rfl ?_
        refine AF.vw dX8_execute_100 kv_X8_277 (X7_copyFrom_ok hS hS6 (by omega) (by omega)) (by assumption) rfl rfl rfl (Nat.le_of_ble_eq_true rfl) (by decide) rfl (fun E F9 q => nomatch q.1) (fun v F q => ?_)
        obtain ⟨q, hN9, q10⟩ := q
        cases q
        have hC9 := hC6.sgm hN9 q10
        have hex : exX X = (dK X.sg L L.length, X.sv, pushH X.hs X.sg, [], X.ou, X.er, X.fa) := by
          unfold exX
          rw [if_neg hoe, ← hL, e9]
        have hec : exC X = 0 := by
          unfold exC
          rw [if_neg hoe, ← hL, e9]
          rfl
        rw [hex, hec, hpr]
        refine AF.iload_n dX8_execute_103 rfl ?_
        exact AF.ireturn dX8_execute_104 rfl (XQ.fo hC9 (q9.trans q10 (show c ≤ c + 1 by omega) (by omega)) (Nat.le_refl _) (Nat.le_refl _) rfl)
      · rw [nI_leI (by omega) (by omega)] at c2
        cases e9 : fL X.sg L with
        | none =>
          rw [e9] at hpr
          dsimp only at hpr
          omega
        | some k =>
          rw [e9] at hpr
          dsimp only at hpr
          subst hpr
          have hex : exX X = (X.sg, X.sv, X.hs, [], X.ou, X.er, nI pr) := by
            unfold exX
            rw [if_neg hoe, ← hL, e9]
          have hec : exC X = 2 := by
            unfold exC
            rw [if_neg hoe, ← hL, e9]
            rfl
          rw [hex, hec]
          refine AF.aload_n dX8_execute_72 rfl ?_
          refine AF.iload_n dX8_execute_73 rfl ?_
          refine AF.putfieldF dX8_execute_74 fp_X8_61 c0 (by omega) (Nat.le_of_ble_eq_true rfl) rfl rfl (Or.inr fq_5_11) ?_
          intro F6 e8 h8 o8
          obtain ⟨τ1, hTr⟩ := hTr
          obtain ⟨τ2, hV, hV2⟩ := hV
          have hC6 : CX G F6 c bv (X.sg, X.sv, X.hs, [], X.ou, X.er, nI pr) := ⟨hn, hf, ⟨h8, (o8 (c + 34) (by omega)).trans c34⟩, hh, hSg.kept (fun q q1 q3 => o8 q (by omega)), ⟨τ1, hTr.kept (fun q q1 q3 => o8 q (by omega))⟩, ⟨τ2, hV.kept (fun q q1 q3 => o8 q (by omega)), hV2⟩, hR.kept (fun q q1 q3 => o8 q (by omega)), hLs.kept (fun q q1 q3 => o8 q (by omega)), ⟨_, _, _, _, hT5.kept (fun q q1 q3 => o8 q (by omega))⟩, hO.kept (o8 (c + 41) (by omega)) (o8 bv (by have := hO.2; omega)) (Nat.le_of_eq e8.symm)⟩
          exact AF.throwSW (bc := 0) (bs := 0) th_X8_342_344_346 dX8_execute_77 dX8_execute_80 dX8_execute_81 dX8_execute_84 dX8_execute_87 rfl (by decide) (Nat.le_of_ble_eq_true rfl) (fun n hn => XQ.fx hC6 (q7.step e8 (by omega) (by omega) o8) (Nat.le_refl _) (Nat.le_refl _) (by decide) rfl hn)
    · exact absurd rfl c1
  · rw [if_neg ho]
    have hof : (exP X).1 = false := by
      cases q : (exP X).1 with
      | false => rfl
      | true => exact absurd q ho
    obtain ⟨er, her⟩ : ∃ er, er = (psT X.tx 61 0).2.1 := ⟨_, rfl⟩
    have hel : er ≤ 60 := by rw [her]; omega
    have hex : exX X = (X.sg, X.sv, X.hs, [], X.ou, nI er, X.fa) := by
      unfold exX
      rw [if_pos hof, her]
      rfl
    have hec : exC X = 1 := by
      unfold exC
      rw [if_pos hof]
    rw [hex, hec, ← her]
    obtain ⟨hn, hf, ⟨c0, -⟩, -⟩ := id hC2
    obtain ⟨tf2, nf2, ⟨k0, k1, k2⟩, kT, kN⟩ := id hT2
    refine AF.istore_n dX8_execute_7 (by decide) ?_
    refine AF.iload_n dX8_execute_8 rfl ?_
    refine AF.iconst (-1) dX8_execute_9 (by decide) ?_
    refine AF.icmp_eq 37 dX8_execute_10 (by decide) (fun c1 => ?_) (fun c1 => ?_)
    · exact absurd c1 (nI_nm (by omega))
    · refine AF.aload_n dX8_execute_13 rfl ?_
      refine AF.getfield dX8_execute_14 fl_X8_47 (by assumption) rfl ?_
      refine AF.iconst (0) dX8_execute_17 (by decide) ?_
      refine AF.putfieldF dX8_execute_18 fp_X8_329 k0 (by omega) (Nat.le_of_ble_eq_true rfl) rfl rfl (Or.inr fq_3_1) ?_
      intro F5 e9 h9 o9
      have hT5 : TS G F5 (c + 38) [] pl2 cc2 cm2 ns2 := ⟨tf2, nf2, ⟨h9, (o9 (c + 38 + 1) (by omega)).trans k1, (o9 (c + 38 + 2) (by omega)).trans k2⟩, ⟨Nat.zero_le _, fun i hi => absurd hi (Nat.not_lt_zero _)⟩, kN⟩
      have q6 : Fr (c + 38) (c + 41) F F5 := Fr.rf.step e9 (by omega) (by omega) o9
      have hC5 := hC2.scr ⟨_, _, _, _, hT5⟩ q6
      have q7 : Fr c (c + 131) F0 F5 := (q2.wide (show c ≤ c + 38 by omega) (show c + 38 + 3 ≤ c + 131 by omega)).trans q6 (show c ≤ c + 38 by omega) (by omega)
      clear c0 k0
      obtain ⟨hn, hf, ⟨c0, c34⟩, hh, hSg, ⟨τ1, hTr⟩, ⟨τ2, hV, hV2⟩, hR, hLs, -, hO⟩ := id hC5
      refine AF.aload_n dX8_execute_21 rfl ?_
      refine AF.iload_n dX8_execute_22 rfl ?_
      refine AF.putfieldF dX8_execute_23 fp_X8_58 c0 (by omega) (Nat.le_of_ble_eq_true rfl) rfl rfl (Or.inr fq_5_10) ?_
      intro F6 e8 h8 o8
      have hC6 : CX G F6 c bv (X.sg, X.sv, X.hs, [], X.ou, nI er, X.fa) := ⟨hn, hf, ⟨h8, (o8 (c + 34) (by omega)).trans c34⟩, hh, hSg.kept (fun q q1 q3 => o8 q (by omega)), ⟨τ1, hTr.kept (fun q q1 q3 => o8 q (by omega))⟩, ⟨τ2, hV.kept (fun q q1 q3 => o8 q (by omega)), hV2⟩, hR.kept (fun q q1 q3 => o8 q (by omega)), hLs.kept (fun q q1 q3 => o8 q (by omega)), ⟨_, _, _, _, hT5.kept (fun q q1 q3 => o8 q (by omega))⟩, hO.kept (o8 (c + 41) (by omega)) (o8 bv (by have := hO.2; omega)) (Nat.le_of_eq e8.symm)⟩
      exact AF.throwSW (bc := 0) (bs := 0) th_X8_331_333_335 dX8_execute_26 dX8_execute_29 dX8_execute_30 dX8_execute_33 dX8_execute_36 rfl (by decide) (Nat.le_of_ble_eq_true rfl) (fun n hn => XQ.fx hC6 (q7.step e8 (by omega) (by omega) o8) (Nat.le_refl _) (Nat.le_refl _) (by decide) rfl hn)
end

