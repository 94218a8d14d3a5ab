/-! The show: forecasts, statistics, feeding, undo, what is saved. -/
theorem inB_40 {x : Int32} (h : inB x 0 40 = true) : cl x ≤ 40 ∧ x = nI (cl x) := by
  unfold inB at h
  rw [Bool.and_eq_true] at h
  exact rng (n := 40) (by omega) (Int32.not_lt.mpr (of_decide_eq_true h.1)) (Int32.not_lt.mpr (of_decide_eq_true h.2))
theorem nxN_c {σ : Sg} : ∀ n, (nxN σ n).cap = σ.cap
  | 0 => rfl
  | n + 1 => nxN_c n
section
variable {G : GA} {F F0 F' : AH} {c bv B : Nat} {X X' : XS} {es : List String} {p : Nat} {v : Value}
theorem XQ.fo {lo hi : Nat} (h : CX G F c bv X) (q : Fr lo hi F0 F) (h1 : c ≤ lo) (h2 : hi ≤ c + 131) (hp : p = 0) : XQ G c bv X (rx es p v) F0 (.inl (some v)) F := ⟨by unfold rx; rw [if_pos hp], bv, h, XF.fr q h1 h2⟩
theorem XQ.fx {lo hi n : Nat} {E : String} (h : CX G F c bv X) (q : Fr lo hi F0 F) (h1 : c ≤ lo) (h2 : hi ≤ c + 131) (hp : ¬ p = 0) (he : es.getD (p - 1) "" = E) (hn : F.1 ≤ n) : XQ G c bv X (rx es p v) F0 (.inr E) (more F n) := ⟨by unfold rx; rw [if_neg hp, he], bv, h.more hn, (XF.fr q h1 h2).more hn⟩
set_option maxRecDepth 100000 in
theorem X8_crossingsByMerging_ok (hC : CX G F c bv X) (ha : gN G ≤ c) (hI : SQ X.sg B) : AC G mX8_crossingsByMerging 11 0 0 [.ref c] F (XQ G c bv X (rx [] 0 (.int (nI (prs X.sg.J X.sg.cap X.sg.w)))) F) := by
  have hC0 := hC
  obtain ⟨hn, hf, ⟨c0, -⟩, -, hS, -, -, -, hL, -⟩ := hC
  obtain ⟨ef, es, ⟨s0, -⟩, -, hJ, -⟩ := hS
  obtain ⟨-, -, ⟨j0, -⟩, -⟩ := id hJ
  obtain ⟨-, -, ⟨l0, -⟩⟩ := id hL
  obtain ⟨⟨i1, i2, i3, i4, i5⟩, i6, i7, i8, i9, i10⟩ := id hI
  refine AC.of [some (.ref c)] rfl (by decide) (Nat.le_of_ble_eq_true rfl) rfl ?_
  refine AF.aload_n dX8_crossingsByMerging_0 rfl ?_
  refine AF.getfield dX8_crossingsByMerging_1 fl_X8_40 (by assumption) rfl ?_
  refine AF.aload_n dX8_crossingsByMerging_4 rfl ?_
  refine AF.getfield dX8_crossingsByMerging_5 fl_X8_10 (by assumption) rfl ?_
  refine AF.getfield dX8_crossingsByMerging_8 fl_X8_64 (by assumption) rfl ?_
  refine AF.vw dX8_crossingsByMerging_11 kv_X8_152 (X4_countInversions_ok hL hJ (by omega) (by omega) i1 i6 i2) (by assumption) rfl rfl rfl (Nat.le_of_ble_eq_true rfl) (by decide) rfl (fun E F9 q => nomatch q.1) (fun v F q => ?_)
  obtain ⟨q, hL2, q2⟩ := q
  cases q
  exact AF.ireturn dX8_crossingsByMerging_14 rfl (XQ.fo (hC0.srt hL2 q2) q2 (by omega) (by omega) rfl)
set_option maxRecDepth 100000 in
theorem X8_jetByPosition_ok (hC : CX G F c bv X) (hI : SQ X.sg B) (x : Int32) : AC G mX8_jetByPosition 11 1 6 [.ref c, .int x] F (XQ G c bv X (rx [eNo] (if (fnd (fun j => decide (nI (rnk X.sg.J j) = x)) X.sg.J.length).isSome = true then 0 else 1) (.int (nI ((fnd (fun j => decide (nI (rnk X.sg.J j) = x)) X.sg.J.length).getD 0)))) F) := by
  have hC0 := hC
  obtain ⟨hn, hf, ⟨c0, -⟩, -, hS, -⟩ := hC
  obtain ⟨ef, es, ⟨s0, -⟩, -, hJ, -⟩ := hS
  obtain ⟨-, -, ⟨j0, -⟩, -⟩ := id hJ
  obtain ⟨⟨i1, i2, i3, i4, i5⟩, i6, i7, i8, i9, i10⟩ := id hI
  have hr := rk_has i6 i7 x
  have hH := X3_has_ok hJ x
  rw [show (decide (0 ≤ x) && decide (x < nI X.sg.J.length)) = hasB X.sg.J.length x from rfl, hr] at hH
  have hK := X3_findByRank_ok hJ i1 x
  obtain ⟨o, ho⟩ : ∃ o, o = fnd (fun j => decide (nI (rnk X.sg.J j) = x)) X.sg.J.length := ⟨_, rfl⟩
  rw [← ho] at hH hK ⊢
  refine AC.of [some (.ref c), some (.int x)] rfl (by decide) (Nat.le_of_ble_eq_true rfl) rfl ?_
  refine AF.aload_n dX8_jetByPosition_0 rfl ?_
  refine AF.getfield dX8_jetByPosition_1 fl_X8_10 (by assumption) rfl ?_
  refine AF.getfield dX8_jetByPosition_4 fl_X8_64 (by assumption) rfl ?_
  refine AF.iload_n dX8_jetByPosition_7 rfl ?_
  refine AF.v1 dX8_jetByPosition_8 kv_X8_133 (hH) (by assumption) rfl rfl rfl (Nat.le_of_ble_eq_true rfl) (by decide) rfl ?_
  refine AF.if_ne 24 dX8_jetByPosition_11 (by decide) (fun c1 => ?_) (fun c1 => ?_)
  · have h1 := bI_n c1
    refine AF.aload_n dX8_jetByPosition_24 rfl ?_
    refine AF.getfield dX8_jetByPosition_25 fl_X8_10 (by assumption) rfl ?_
    refine AF.getfield dX8_jetByPosition_28 fl_X8_64 (by assumption) rfl ?_
    refine AF.iload_n dX8_jetByPosition_31 rfl ?_
    cases o with
    | none => cases h1
    | some k =>
      refine AF.v1 dX8_jetByPosition_32 kv_X8_143 (hK) (by assumption) rfl rfl rfl (Nat.le_of_ble_eq_true rfl) (by decide) rfl ?_
      exact AF.ireturn dX8_jetByPosition_35 rfl (XQ.ok hC0 rfl)
  · have h1 := bI_z c1
    have h2 : ¬ o.isSome = true := by rw [h1]; decide
    exact AF.throwN (bc := 0) (bs := 0) th_X8_136_138_140 dX8_jetByPosition_14 dX8_jetByPosition_17 dX8_jetByPosition_18 dX8_jetByPosition_20 dX8_jetByPosition_23 rfl (by decide) (Nat.le_of_ble_eq_true rfl) (fun n hn => XQ.x1 hC0 h2 hn)
set_option maxRecDepth 100000 in
theorem X8_demandAfterBySteps_ok (hC : CX G F c bv X) (hI : SQ X.sg B) (x : Int32) : AC G mX8_demandAfterBySteps 11 1 6 [.ref c, .int x] F (XQ G c bv X (rx [eAr] (if inB x 0 40 = true then 0 else 1) (.int (nI (dem (nxN X.sg (cl x)).J)))) F) := by
  have hC0 := hC
  obtain ⟨hn, hf, ⟨c0, -⟩, -, hS, -⟩ := hC
  obtain ⟨ef, es, ⟨s0, -⟩, -, -⟩ := id hS
  refine AC.of [some (.ref c), some (.int x)] rfl (by decide) (Nat.le_of_ble_eq_true rfl) rfl ?_
  refine AF.iload_n dX8_demandAfterBySteps_0 rfl ?_
  refine AF.callS (bc := 0) (bs := 0) (mc' := 1) (ms' := 6) dX8_demandAfterBySteps_1 kv_X8_274 (X8_requireForecast_ok x) rfl rfl (Nat.le_of_ble_eq_true rfl) (by decide) rfl (fun E F' q => ?_) (fun v F' q => ?_)
  · obtain ⟨h, rfl, n, hn, rfl⟩ := q.x
    exact XQ.x1 hC0 h hn
  · obtain ⟨h, rfl, rfl⟩ := q.n
    obtain ⟨x1, x2⟩ := inB_40 h
    rw [show some (Value.int x) = some (.int (nI (cl x))) from congrArg (fun z => some (Value.int z)) x2]
    refine AF.aload_n dX8_demandAfterBySteps_4 rfl ?_
    refine AF.getfield dX8_demandAfterBySteps_5 fl_X8_10 (by assumption) rfl ?_
    refine AF.iload_n dX8_demandAfterBySteps_8 rfl ?_
    refine AF.v1 dX8_demandAfterBySteps_9 kv_X8_281 ((X7_demandFromLastSteps_ok hS hI.1 (cl x) x1)) (by assumption) rfl rfl rfl (Nat.le_of_ble_eq_true rfl) (by decide) rfl ?_
    rw [lsD_eq]
    exact AF.ireturn dX8_demandAfterBySteps_12 rfl (XQ.ok hC0 (if_pos h))
set_option maxRecDepth 100000 in
theorem X8_demandAfter_ok (hC : CX G F0 c bv X) (ha : gN G ≤ c) (hI : SQ X.sg B) (hB : B + 40 ≤ 2 ^ 21) (x : Int32) : AC G mX8_demandAfter 11 1 6 [.ref c, .int x] F0 (XQ G c bv X (rx [eAr] (if inB x 0 40 = true then 0 else 1) (.int (nI (dem (nxN X.sg (cl x)).J)))) F0) := by
  have hC0 := hC
  obtain ⟨hn, hf, ⟨c0, -⟩, -, hS, ⟨τ, hT⟩, -⟩ := hC
  obtain ⟨ef, es, ⟨s0, -⟩, -, -⟩ := id hS
  obtain ⟨ef2, es2, ⟨t0, -⟩, -, -⟩ := id hT
  refine AC.of [some (.ref c), some (.int x)] rfl (by decide) (Nat.le_of_ble_eq_true rfl) rfl ?_
  refine AF.iload_n dX8_demandAfter_0 rfl ?_
  refine AF.callS (bc := 0) (bs := 0) (mc' := 1) (ms' := 6) dX8_demandAfter_1 kv_X8_274 (X8_requireForecast_ok x) rfl rfl (Nat.le_of_ble_eq_true rfl) (by decide) rfl (fun E F' q => ?_) (fun v F' q => ?_)
  · obtain ⟨h, rfl, n, hn, rfl⟩ := q.x
    exact XQ.x1 hC0 h hn
  · obtain ⟨h, rfl, rfl⟩ := q.n
    obtain ⟨x1, x2⟩ := inB_40 h
    rw [show some (Value.int x) = some (.int (nI (cl x))) from congrArg (fun z => some (Value.int z)) x2]
    refine AF.aload_n dX8_demandAfter_4 rfl ?_
    refine AF.getfield dX8_demandAfter_5 fl_X8_16 (by assumption) rfl ?_
    refine AF.aload_n dX8_demandAfter_8 rfl ?_
    refine AF.getfield dX8_demandAfter_9 fl_X8_10 (by assumption) rfl ?_
    refine AF.vw dX8_demandAfter_12 kv_X8_277 (X7_copyFrom_ok hT hS (by omega) (by omega)) (by assumption) rfl rfl rfl (Nat.le_of_ble_eq_true rfl) (by decide) rfl (fun E F9 q => nomatch q.1) (fun v F q => ?_)
    obtain ⟨q, hN, q2⟩ := q
    cases q
    have hC2 := hC0.trl hN q2
    replace c0 := (q2.2 c (by omega)).trans c0
    clear t0 ef2 es2 s0 ef es
    obtain ⟨ef2, es2, ⟨t0, -⟩, -, -⟩ := id hN
    refine AF.aload_n dX8_demandAfter_15 rfl ?_
    refine AF.getfield dX8_demandAfter_16 fl_X8_16 (by assumption) rfl ?_
    refine AF.iload_n dX8_demandAfter_19 rfl ?_
    refine AF.vw dX8_demandAfter_20 kv_X8_256 (X7_passBeats_ok hN (by omega) hI.1 (cl x) (by omega)) (by assumption) rfl rfl rfl (Nat.le_of_ble_eq_true rfl) (by decide) rfl (fun E F9 q => nomatch q.1) (fun v F q => ?_)
    obtain ⟨q, hN2, q3⟩ := q
    cases q
    have hC3 := hC2.trl hN2 q3
    replace c0 := (q3.2 c (by omega)).trans c0
    clear t0 ef2 es2
    obtain ⟨ef2, es2, ⟨t0, -⟩, -, hJ, -⟩ := id hN2
    obtain ⟨-, -, ⟨j0, -⟩, -⟩ := id hJ
    refine AF.pop dX8_demandAfter_23 rfl ?_
    refine AF.aload_n dX8_demandAfter_24 rfl ?_
    refine AF.getfield dX8_demandAfter_25 fl_X8_16 (by assumption) rfl ?_
    refine AF.getfield dX8_demandAfter_28 fl_X8_64 (by assumption) rfl ?_
    refine AF.v1 dX8_demandAfter_31 kv_X8_110 ((X3_sum_ok hJ)) (by assumption) rfl rfl rfl (Nat.le_of_ble_eq_true rfl) (by decide) rfl ?_
    exact AF.ireturn dX8_demandAfter_34 rfl (XQ.fo hC3 (q2.trans q3 (Nat.le_refl _) (Nat.le_refl _)) (by omega) (by omega) (if_pos h))
set_option maxRecDepth 100000 in
set_option maxHeartbeats 2000000 in
theorem X8_firstOverload_ok (hC : CX G F0 c bv X) (ha : gN G ≤ c) (hI : SQ X.sg B) (hB : B + 40 ≤ 2 ^ 21) (x : Int32) : AC G mX8_firstOverload 11 2 12 [.ref c, .int x] F0 (XQ G c bv X (rx [eAr, eNo] (if inB x 0 40 = true then (if (fov X.sg (cl x)).isSome = true then 0 else 2) else 1) (.int (nI ((fov X.sg (cl x)).getD 0 + 1)))) F0) := by
  have hC0 := hC
  obtain ⟨hn, hf, ⟨c0, -⟩, -, hS, ⟨τ, hT⟩, -⟩ := hC
  obtain ⟨ef, es, ⟨s0, -⟩, -, -⟩ := id hS
  obtain ⟨ef2, es2, ⟨t0, -⟩, -, -⟩ := id hT
  refine AC.of [some (.ref c), some (.int x), none] rfl (by decide) (Nat.le_of_ble_eq_true rfl) rfl ?_
  refine AF.iload_n dX8_firstOverload_0 rfl ?_
  refine AF.callS (bc := 1) (bs := 6) (mc' := 1) (ms' := 6) dX8_firstOverload_1 kv_X8_274 (X8_requireForecast_ok x) rfl rfl (Nat.le_of_ble_eq_true rfl) (by decide) rfl (fun E F' q => ?_) (fun v F' q => ?_)
  · obtain ⟨h, rfl, n, hn, rfl⟩ := q.x
    refine XQ.x hC0 (by rw [if_neg h]; decide) (by rw [if_neg h]; rfl) hn
  · obtain ⟨h, rfl, rfl⟩ := q.n
    obtain ⟨x1, x2⟩ := inB_40 h
    rw [if_pos h]
    rw [show some (Value.int x) = some (.int (nI (cl x))) from congrArg (fun z => some (Value.int z)) x2]
    obtain ⟨n, hn9⟩ : ∃ n, n = cl x := ⟨_, rfl⟩
    rw [← hn9] at x1 ⊢
    refine AF.aload_n dX8_firstOverload_4 rfl ?_
    refine AF.getfield dX8_firstOverload_5 fl_X8_16 (by assumption) rfl ?_
    refine AF.aload_n dX8_firstOverload_8 rfl ?_
    refine AF.getfield dX8_firstOverload_9 fl_X8_10 (by assumption) rfl ?_
    refine AF.vw dX8_firstOverload_12 kv_X8_277 (X7_copyFrom_ok hT hS (by omega) (by omega)) (by assumption) rfl rfl rfl (Nat.le_of_ble_eq_true rfl) (by decide) rfl (fun E F9 q => nomatch q.1) (fun v F q => ?_)
    obtain ⟨q, hN, q2⟩ := q
    cases q
    have loop : ∀ r k F1, k + r = n → CX G F1 c bv X → SA G F1 (c + 12) (nxN X.sg k) → Fr c (c + 131) F' F1 → (∀ i, i < k → fovP X.sg i = false) → AF G mX8_firstOverload 11 1 6 (XQ G c bv X (rx [eAr, eNo] (if (fov X.sg n).isSome = true then 0 else 2) (.int (nI ((fov X.sg n).getD 0 + 1)))) F') F1 17 [some (.ref c), some (.int (nI n)), some (.int (nI (k + 1)))] [] := by
      intro r
      induction r with
      | zero =>
        intro k F1 hk hC1 hN1 q1 hb
        have e9 : fov X.sg n = none := fnd_none (fun i hi => hb i (by omega))
        rw [e9]
        refine AF.iload_n dX8_firstOverload_17 rfl ?_
        refine AF.iload_n dX8_firstOverload_18 rfl ?_
        refine AF.icmp_gt 61 dX8_firstOverload_19 (by decide) (fun c1 => ?_) (fun c1 => ?_)
        · exact AF.throwNW (bc := 0) (bs := 0) th_X8_136_287_140 dX8_firstOverload_61 dX8_firstOverload_64 dX8_firstOverload_65 dX8_firstOverload_68 dX8_firstOverload_71 rfl (by decide) (Nat.le_of_ble_eq_true rfl) (fun n hn => XQ.fx hC1 q1 (Nat.le_refl _) (Nat.le_refl _) (by decide) rfl hn)
        · rw [nI_ltI (by omega) (by omega)] at c1
          omega
      | succ r ih =>
        intro k F1 hk hC1 hN1 q1 hb
        obtain ⟨hn1, hf1, ⟨c0, -⟩, -⟩ := id hC1
        obtain ⟨ef2, es2, ⟨t0, -⟩, -, -⟩ := id hN1
        refine AF.iload_n dX8_firstOverload_17 rfl ?_
        refine AF.iload_n dX8_firstOverload_18 rfl ?_
        refine AF.icmp_gt 61 dX8_firstOverload_19 (by decide) (fun c1 => ?_) (fun c1 => ?_)
        · rw [nI_ltI (by omega) (by omega)] at c1
          omega
        · refine AF.aload_n dX8_firstOverload_22 rfl ?_
          refine AF.getfield dX8_firstOverload_23 fl_X8_16 (by assumption) rfl ?_
          refine AF.vw dX8_firstOverload_26 kv_X8_284 (X7_passOneBeat_ok hN1 (by omega) (SI_nxN hI.1 hI.2.2.1 k (by omega)) (show B + k < 2 ^ 21 by omega)) (by assumption) rfl rfl rfl (Nat.le_of_ble_eq_true rfl) (by decide) rfl (fun E F9 q => nomatch q.1) (fun v F q => ?_)
          obtain ⟨q, hN2, q3⟩ := q
          cases q
          have hN2 : SA G F (c + 12) (nxN X.sg (k + 1)) := hN2
          have hC3 := hC1.trl hN2 q3
          have q4 := q1.trans q3 (show c ≤ c + 12 by omega) (by omega)
          have hQ := hI.nxN (k + 1) (by omega)
          have hcp : (nxN X.sg (k + 1)).cap ≤ 100 := hQ.1.2.1
          have hdm := dem_le hQ.1.1 hQ.2.2.1
          clear c0 t0
          obtain ⟨hn2, hf2, ⟨c0, -⟩, -⟩ := id hC3
          obtain ⟨ef3, es3, ⟨t0, -⟩, -, hJ, -⟩ := id hN2
          obtain ⟨-, -, ⟨j0, -⟩, -⟩ := id hJ
          refine AF.pop dX8_firstOverload_29 rfl ?_
          refine AF.aload_n dX8_firstOverload_30 rfl ?_
          refine AF.getfield dX8_firstOverload_31 fl_X8_16 (by assumption) rfl ?_
          refine AF.getfield dX8_firstOverload_34 fl_X8_64 (by assumption) rfl ?_
          refine AF.v1 dX8_firstOverload_37 kv_X8_110 ((X3_sum_ok hJ)) (by assumption) rfl rfl rfl (Nat.le_of_ble_eq_true rfl) (by decide) rfl ?_
          refine AF.aload_n dX8_firstOverload_40 rfl ?_
          refine AF.getfield dX8_firstOverload_41 fl_X8_16 (by assumption) rfl ?_
          refine AF.getfield dX8_firstOverload_44 fl_X8_64 (by assumption) rfl ?_
          refine AF.getfield dX8_firstOverload_47 fl_X8_171 (by assumption) rfl ?_
          refine AF.icmp_le 55 dX8_firstOverload_50 (by decide) (fun c2 => ?_) (fun c2 => ?_)
          · rw [nI_leI (by omega) (by omega)] at c2
            refine AF.inc1 dX8_firstOverload_55 rfl (by decide) ?_
            refine AF.goto 17 dX8_firstOverload_58 (by decide) ?_
            refine ih (k + 1) F (by omega) hC3 hN2 q4 (fun i hi => ?_)
            by_cases e : i = k
            · subst e
              refine decide_eq_false ?_
              rw [nxN_c] at c2
              omega
            · exact hb i (by omega)
          · rw [nI_leI (by omega) (by omega)] at c2
            have e9 : fov X.sg n = some k := fnd_some (decide_eq_true (by rw [nxN_c] at c2; omega)) (by omega) hb
            rw [e9]
            refine AF.iload_n dX8_firstOverload_53 rfl ?_
            exact AF.ireturn dX8_firstOverload_54 rfl (XQ.fo hC3 q4 (Nat.le_refl _) (Nat.le_refl _) rfl)
    refine AF.iconst (nI 1) dX8_firstOverload_15 (by decide) ?_
    refine AF.istore_n dX8_firstOverload_16 (by decide) ?_
    exact loop n 0 F (by omega) (hC0.trl hN q2) hN (q2.wide (by omega) (by omega)) (fun i hi => absurd hi (Nat.not_lt_zero _))
set_option maxRecDepth 100000 in
set_option maxHeartbeats 2000000 in
theorem X8_isConsistent_ok (hC : CX G F0 c bv X) (ha : gN G ≤ c) (hI : SQ X.sg B) (hB : B + 41 ≤ 2 ^ 21) : AC G mX8_isConsistent 11 0 0 [.ref c] F0 (XQ G c bv X (rx [] 0 (.int (bI true))) F0) := by
  have hC0 := hC
  obtain ⟨hn, hf, ⟨c0, -⟩, -, hS, ⟨τ, hT⟩, -, -, hL, -⟩ := hC
  obtain ⟨ef, es, ⟨s0, -⟩, -, hJ, -⟩ := id hS
  obtain ⟨-, -, ⟨j0, -⟩, -⟩ := id hJ
  obtain ⟨-, -, ⟨l0, -⟩⟩ := id hL
  obtain ⟨⟨i1, i2, i3, i4, i5⟩, i6, i7, i8, i9, i10⟩ := id hI
  refine AC.of [some (.ref c), none] rfl (by decide) (Nat.le_of_ble_eq_true rfl) rfl ?_
  refine AF.aload_n dX8_isConsistent_0 rfl ?_
  refine AF.getfield dX8_isConsistent_1 fl_X8_10 (by assumption) rfl ?_
  refine AF.getfield dX8_isConsistent_4 fl_X8_64 (by assumption) rfl ?_
  refine AF.v1 dX8_isConsistent_7 kv_X8_149 ((X3_countCrossingPairs_ok hJ i1 i2)) (by assumption) rfl rfl rfl (Nat.le_of_ble_eq_true rfl) (by decide) rfl ?_
  refine AF.aload_n dX8_isConsistent_10 rfl ?_
  refine AF.getfield dX8_isConsistent_11 fl_X8_40 (by assumption) rfl ?_
  refine AF.aload_n dX8_isConsistent_14 rfl ?_
  refine AF.getfield dX8_isConsistent_15 fl_X8_10 (by assumption) rfl ?_
  refine AF.getfield dX8_isConsistent_18 fl_X8_64 (by assumption) rfl ?_
  refine AF.vw dX8_isConsistent_21 kv_X8_152 (X4_countInversions_ok hL hJ (by omega) (by omega) i1 i6 i2) (by assumption) rfl rfl rfl (Nat.le_of_ble_eq_true rfl) (by decide) rfl (fun E F9 q => nomatch q.1) (fun v F q => ?_)
  obtain ⟨q, hL2, q2⟩ := q
  cases q
  have hC2 := hC0.srt hL2 q2
  have q20 : Fr c (c + 131) F0 F := q2.wide (by omega) (by omega)
  clear c0 s0 j0 l0 hS hT hL hJ
  obtain ⟨hn2, hf2, ⟨c0, -⟩, -, hS, ⟨τ2, hT⟩, -⟩ := id hC2
  obtain ⟨ef2, es2, ⟨s0, -⟩, -, -⟩ := id hS
  obtain ⟨ef3, es3, ⟨t0, -⟩, -, -⟩ := id hT
  refine AF.icmp_eq 29 dX8_isConsistent_24 (by decide) (fun c1 => ?_) (fun c1 => ?_)
  · refine AF.aload_n dX8_isConsistent_29 rfl ?_
    refine AF.getfield dX8_isConsistent_30 fl_X8_16 (by assumption) rfl ?_
    refine AF.aload_n dX8_isConsistent_33 rfl ?_
    refine AF.getfield dX8_isConsistent_34 fl_X8_10 (by assumption) rfl ?_
    refine AF.vw dX8_isConsistent_37 kv_X8_277 (X7_copyFrom_ok hT hS (by omega) (by omega)) (by assumption) rfl rfl rfl (Nat.le_of_ble_eq_true rfl) (by decide) rfl (fun E F9 q => nomatch q.1) (fun v F q => ?_)
    obtain ⟨q, hN, q3⟩ := q
    cases q
    have hC3 := hC2.trl hN q3
    have q30 := q20.trans q3 (show c ≤ c + 12 by omega) (by omega)
    have loop : ∀ r k F1, k + r = 41 → CX G F1 c bv X → SA G F1 (c + 12) (nxN X.sg k) → Fr c (c + 131) F0 F1 → AF G mX8_isConsistent 11 0 0 (XQ G c bv X (rx [] 0 (.int (bI true))) F0) F1 42 [some (.ref c), some (.int (nI k))] [] := by
      intro r
      induction r with
      | zero =>
        intro k F1 hk hC1 hN1 q1
        refine AF.iload_n dX8_isConsistent_42 rfl ?_
        refine AF.bipush (nI 40) dX8_isConsistent_43 (by decide) ?_
        refine AF.icmp_gt 85 dX8_isConsistent_45 (by decide) (fun c1 => ?_) (fun c1 => ?_)
        · refine AF.iconst (1) dX8_isConsistent_85 (by decide) ?_
          exact AF.zreturn dX8_isConsistent_86 rfl (bI_nar true) (XQ.fo hC1 q1 (Nat.le_refl _) (Nat.le_refl _) rfl)
        · rw [nI_ltI (by omega) (by omega)] at c1
          omega
      | succ r ih =>
        intro k F1 hk hC1 hN1 q1
        obtain ⟨hn1, hf1, ⟨c0, -⟩, -, hS, -⟩ := id hC1
        obtain ⟨ef2, es2, ⟨s0, -⟩, -, -⟩ := id hS
        obtain ⟨ef3, es3, ⟨t0, -⟩, -, hJ, -⟩ := id hN1
        obtain ⟨-, -, ⟨j0, -⟩, -⟩ := id hJ
        refine AF.iload_n dX8_isConsistent_42 rfl ?_
        refine AF.bipush (nI 40) dX8_isConsistent_43 (by decide) ?_
        refine AF.icmp_gt 85 dX8_isConsistent_45 (by decide) (fun c1 => ?_) (fun c1 => ?_)
        · rw [nI_ltI (by omega) (by omega)] at c1
          omega
        · refine AF.aload_n dX8_isConsistent_48 rfl ?_
          refine AF.getfield dX8_isConsistent_49 fl_X8_16 (by assumption) rfl ?_
          refine AF.getfield dX8_isConsistent_52 fl_X8_64 (by assumption) rfl ?_
          refine AF.v1 dX8_isConsistent_55 kv_X8_110 ((X3_sum_ok hJ)) (by assumption) rfl rfl rfl (Nat.le_of_ble_eq_true rfl) (by decide) rfl ?_
          refine AF.aload_n dX8_isConsistent_58 rfl ?_
          refine AF.getfield dX8_isConsistent_59 fl_X8_10 (by assumption) rfl ?_
          refine AF.iload_n dX8_isConsistent_62 rfl ?_
          refine AF.v1 dX8_isConsistent_63 kv_X8_281 ((X7_demandFromLastSteps_ok hS hI.1 k (by omega))) (by assumption) rfl rfl rfl (Nat.le_of_ble_eq_true rfl) (by decide) rfl ?_
          rw [lsD_eq]
          refine AF.icmp_eq 71 dX8_isConsistent_66 (by decide) (fun c2 => ?_) (fun c2 => ?_)
          · refine AF.aload_n dX8_isConsistent_71 rfl ?_
            refine AF.getfield dX8_isConsistent_72 fl_X8_16 (by assumption) rfl ?_
            refine AF.vw dX8_isConsistent_75 kv_X8_284 (X7_passOneBeat_ok hN1 (by omega) (SI_nxN hI.1 hI.2.2.1 k (by omega)) (show B + k < 2 ^ 21 by omega)) (by assumption) rfl rfl rfl (Nat.le_of_ble_eq_true rfl) (by decide) rfl (fun E F9 q => nomatch q.1) (fun v F q => ?_)
            obtain ⟨q, hN2, q4⟩ := q
            cases q
            have hN2 : SA G F (c + 12) (nxN X.sg (k + 1)) := hN2
            refine AF.pop dX8_isConsistent_78 rfl ?_
            refine AF.inc1 dX8_isConsistent_79 rfl (by decide) ?_
            refine AF.goto 42 dX8_isConsistent_82 (by decide) ?_
            exact ih (k + 1) F (by omega) (hC1.trl hN2 q4) hN2 (q1.trans q4 (show c ≤ c + 12 by omega) (by omega))
          · exact absurd rfl c2
    refine AF.iconst (nI 0) dX8_isConsistent_40 (by decide) ?_
    refine AF.istore_n dX8_isConsistent_41 (by decide) ?_
    exact loop 41 0 F (by omega) hC3 hN q30
  · exact absurd rfl c1
set_option maxRecDepth 100000 in
theorem X8_meanOpening_ok (hC : CX G F c bv X) (hI : SQ X.sg B) : AC G mX8_meanOpening 11 1 6 [.ref c] F (XQ G c bv X (rx [eAi] (if X.sg.J.length = 0 then 1 else 0) (.double (FP.ddiv (FP.i2d (nI (dem X.sg.J))) (FP.i2d (nI X.sg.J.length))))) F) := by
  have hC0 := hC
  obtain ⟨hn, hf, ⟨c0, -⟩, -, hS, -⟩ := hC
  obtain ⟨ef, es, ⟨s0, -⟩, -, hJ, -⟩ := hS
  obtain ⟨-, -, ⟨j0, -⟩, -⟩ := id hJ
  obtain ⟨⟨i1, i2, i3, i4, i5⟩, i6, i7, i8, i9, i10⟩ := id hI
  have hd := dem_le i1 i7
  refine AC.of [some (.ref c), none] rfl (by decide) (Nat.le_of_ble_eq_true rfl) rfl ?_
  refine AF.aload_n dX8_meanOpening_0 rfl ?_
  refine AF.getfield dX8_meanOpening_1 fl_X8_10 (by assumption) rfl ?_
  refine AF.getfield dX8_meanOpening_4 fl_X8_64 (by assumption) rfl ?_
  refine AF.getfield dX8_meanOpening_7 fl_X8_100 (by assumption) rfl ?_
  refine AF.istore_n dX8_meanOpening_10 (by decide) ?_
  refine AF.iload_n dX8_meanOpening_11 rfl ?_
  refine AF.if_ne 26 dX8_meanOpening_12 (by decide) (fun c1 => ?_) (fun c1 => ?_)
  · have h0 : ¬ X.sg.J.length = 0 := fun q => c1 (by rw [q]; rfl)
    refine AF.aload_n dX8_meanOpening_26 rfl ?_
    refine AF.getfield dX8_meanOpening_27 fl_X8_10 (by assumption) rfl ?_
    refine AF.getfield dX8_meanOpening_30 fl_X8_64 (by assumption) rfl ?_
    refine AF.v1 dX8_meanOpening_33 kv_X8_110 ((X3_sum_ok hJ)) (by assumption) rfl rfl rfl (Nat.le_of_ble_eq_true rfl) (by decide) rfl ?_
    have hq := flt_d X.sg.J.length (by omega) (dem X.sg.J) (by omega) (by omega)
    refine AF.i2d dX8_meanOpening_36 ?_
    refine AF.iload_n dX8_meanOpening_37 rfl ?_
    refine AF.i2d dX8_meanOpening_38 ?_
    refine AF.ddiv dX8_meanOpening_39 hq.1 ?_
    exact AF.dreturn dX8_meanOpening_40 rfl (XQ.ok hC0 (if_neg h0))
  · have c1 : nI X.sg.J.length = nI 0 := c1
    rw [nI_eq (by omega) (by omega)] at c1
    exact AF.throwSW (bc := 0) (bs := 0) th_X8_289_291_293 dX8_meanOpening_15 dX8_meanOpening_18 dX8_meanOpening_19 dX8_meanOpening_22 dX8_meanOpening_25 rfl (by decide) (Nat.le_of_ble_eq_true rfl) (fun n hn => XQ.x hC0 (by rw [if_pos c1]; decide) (by rw [if_pos c1]; rfl) hn)
set_option maxRecDepth 100000 in
theorem X8_supplyFraction_ok (hC : CX G F c bv X) (hI : SQ X.sg B) : AC G mX8_supplyFraction 11 1 6 [.ref c] F (XQ G c bv X (rx [eAi] (if dem X.sg.J = 0 then 1 else 0) (.float (FP.fdiv (FP.i2f (nI (sup X.sg.J X.sg.cap))) (FP.i2f (nI (dem X.sg.J)))))) F) := by
  have hC0 := hC
  obtain ⟨hn, hf, ⟨c0, -⟩, -, hS, -⟩ := hC
  obtain ⟨ef, es, ⟨s0, -⟩, -, hJ, -⟩ := hS
  obtain ⟨-, -, ⟨j0, -⟩, -⟩ := id hJ
  obtain ⟨⟨i1, i2, i3, i4, i5⟩, i6, i7, i8, i9, i10⟩ := id hI
  have hd := dem_le i1 i7
  refine AC.of [some (.ref c), none] rfl (by decide) (Nat.le_of_ble_eq_true rfl) rfl ?_
  refine AF.aload_n dX8_supplyFraction_0 rfl ?_
  refine AF.getfield dX8_supplyFraction_1 fl_X8_10 (by assumption) rfl ?_
  refine AF.getfield dX8_supplyFraction_4 fl_X8_64 (by assumption) rfl ?_
  refine AF.v1 dX8_supplyFraction_7 kv_X8_110 ((X3_sum_ok hJ)) (by assumption) rfl rfl rfl (Nat.le_of_ble_eq_true rfl) (by decide) rfl ?_
  refine AF.istore_n dX8_supplyFraction_10 (by decide) ?_
  refine AF.iload_n dX8_supplyFraction_11 rfl ?_
  refine AF.if_ne 26 dX8_supplyFraction_12 (by decide) (fun c1 => ?_) (fun c1 => ?_)
  · have h0 : ¬ dem X.sg.J = 0 := fun q => c1 (by rw [q]; rfl)
    have hs : sup X.sg.J X.sg.cap ≤ dem X.sg.J := sup_le
    refine AF.aload_n dX8_supplyFraction_26 rfl ?_
    refine AF.getfield dX8_supplyFraction_27 fl_X8_10 (by assumption) rfl ?_
    refine AF.getfield dX8_supplyFraction_30 fl_X8_64 (by assumption) rfl ?_
    refine AF.iload_n dX8_supplyFraction_33 rfl ?_
    refine AF.v1 dX8_supplyFraction_34 kv_X8_177 ((X3_supplyFor_ok hJ (dem X.sg.J) (by omega) (by omega))) (by assumption) rfl rfl rfl (Nat.le_of_ble_eq_true rfl) (by decide) rfl ?_
    rw [show (if X.sg.cap < dem X.sg.J then X.sg.cap else dem X.sg.J) = sup X.sg.J X.sg.cap from rfl]
    have hq := flt_f (dem X.sg.J) (by omega) (sup X.sg.J X.sg.cap) (by omega) (by omega)
    refine AF.i2f dX8_supplyFraction_37 ?_
    refine AF.iload_n dX8_supplyFraction_38 rfl ?_
    refine AF.i2f dX8_supplyFraction_39 ?_
    refine AF.fdiv dX8_supplyFraction_40 hq.1 ?_
    exact AF.freturn dX8_supplyFraction_41 rfl (XQ.ok hC0 (if_neg h0))
  · have c1 : nI (dem X.sg.J) = nI 0 := c1
    rw [nI_eq (by omega) (by omega)] at c1
    exact AF.throwSW (bc := 0) (bs := 0) th_X8_289_294_293 dX8_supplyFraction_15 dX8_supplyFraction_18 dX8_supplyFraction_19 dX8_supplyFraction_22 dX8_supplyFraction_25 rfl (by decide) (Nat.le_of_ble_eq_true rfl) (fun n hn => XQ.x hC0 (by rw [if_pos c1]; decide) (by rw [if_pos c1]; rfl) hn)
set_option maxRecDepth 100000 in
theorem X8_feed_ok (hC : CX G F c bv X) (ha : gN G ≤ c) (x : Int32) (hc : vp_nar .char x = x) : AC G mX8_feed 11 1 6 [.ref c, .int x] F (XQ G c bv (fdX X x) (rx [eSt] (if X.tx.length = 60 then 1 else 0) (.int (nI (X.tx.length + 1)))) F) := by
  have hC0 := hC
  obtain ⟨hn, hf, ⟨c0, -⟩, -, -, -, -, -, -, ⟨pl, cc, cm, ns, hT⟩, -⟩ := hC
  obtain ⟨tf, nf, ⟨k0, -⟩, ⟨hl, -⟩, -⟩ := id hT
  refine AC.of [some (.ref c), some (.int x)] rfl (by decide) (Nat.le_of_ble_eq_true rfl) rfl ?_
  refine AF.aload_n dX8_feed_0 rfl ?_
  refine AF.getfield dX8_feed_1 fl_X8_47 (by assumption) rfl ?_
  refine AF.v1 dX8_feed_4 kv_X8_314 ((X6_isFull_ok hT)) (by assumption) rfl rfl rfl (Nat.le_of_ble_eq_true rfl) (by decide) rfl ?_
  refine AF.if_eq 21 dX8_feed_7 (by decide) (fun c1 => ?_) (fun c1 => ?_)
  · have h1 : ¬ 60 ≤ X.tx.length := of_decide_eq_false (bI_z c1)
    have h2 : ¬ X.tx.length = 60 := by omega
    refine AF.aload_n dX8_feed_21 rfl ?_
    refine AF.getfield dX8_feed_22 fl_X8_47 (by assumption) rfl ?_
    refine AF.iload_n dX8_feed_25 rfl ?_
    refine AF.vw dX8_feed_26 kv_X8_323 (X6_append_ok hT (by omega) (by omega) x hc) (by assumption) rfl rfl rfl (Nat.le_of_ble_eq_true rfl) (by decide) rfl (fun E F9 q => nomatch q.1) (fun v F q => ?_)
    obtain ⟨q, hT2, q2⟩ := q
    cases q
    rw [show fdX X x = _ from if_neg h2]
    exact AF.ireturn dX8_feed_29 rfl (XQ.fo (hC0.scr ⟨_, _, _, _, hT2⟩ q2) q2 (by omega) (by omega) (if_neg h2))
  · have h1 : 60 ≤ X.tx.length := of_decide_eq_true (bI_n c1)
    have h2 : X.tx.length = 60 := by omega
    rw [show fdX X x = X from if_pos h2]
    exact AF.throwSW (bc := 0) (bs := 0) th_X8_318_320_322 dX8_feed_10 dX8_feed_13 dX8_feed_14 dX8_feed_17 dX8_feed_20 rfl (by decide) (Nat.le_of_ble_eq_true rfl) (fun n hn => XQ.x hC0 (by rw [if_pos h2]; decide) (by rw [if_pos h2]; rfl) hn)
set_option maxRecDepth 100000 in
theorem X8_save_ok (hC : CX G F0 c bv X) (ha : gN G ≤ c) : AC G mX8_save 11 0 0 [.ref c] F0 (XQ G c bv (svX X) (rx [] 0 (.int (nI X.sg.J.length))) F0) := by
  obtain ⟨hn, hf, ⟨c0, c34⟩, hh, hS, ⟨τt, hT⟩, ⟨τs, hV, hV2⟩, hR, hL, hB, hO⟩ := hC
  have hO2 := hO.2
  obtain ⟨ef, es, ⟨v0, -⟩, -, -⟩ := id hV
  refine AC.of [some (.ref c)] rfl (by decide) (Nat.le_of_ble_eq_true rfl) rfl ?_
  refine AF.aload_n dX8_save_0 rfl ?_
  refine AF.getfield dX8_save_1 fl_X8_19 (by assumption) rfl ?_
  refine AF.aload_n dX8_save_4 rfl ?_
  refine AF.getfield dX8_save_5 fl_X8_10 (by assumption) rfl ?_
  refine AF.vw dX8_save_8 kv_X8_277 (X7_copyFrom_ok hV hS (by omega) (by omega)) (by assumption) rfl rfl rfl (Nat.le_of_ble_eq_true rfl) (by decide) rfl (fun E F9 q => nomatch q.1) (fun v F q => ?_)
  obtain ⟨q, hN, q2⟩ := q
  cases q
  clear v0 hV hV2
  replace c0 := (q2.2 c (by omega)).trans c0
  replace c34 := (q2.2 (c + 34) (by omega)).trans c34
  replace hS := hS.fr q2 (by omega)
  replace hT := hT.fr q2 (by omega)
  replace hR := hR.kept (fun x x1 x2 => q2.2 x (by omega))
  replace hL := hL.fr q2 (by omega)
  replace hB := hB.kept (fun x x1 x2 => q2.2 x (by omega))
  replace hO := hO.kept (q2.2 (c + 41) (by omega)) (q2.2 bv (by omega)) (Nat.le_of_eq q2.1.symm)
  refine AF.aload_n dX8_save_11 rfl ?_
  refine AF.iconst (1) dX8_save_12 (by decide) ?_
  refine AF.putfieldF dX8_save_13 fp_X8_22 c0 (by omega) (Nat.le_of_ble_eq_true rfl) rfl rfl (Or.inr fq_5_3) ?_
  intro F2 e9 h9 o9
  have hS3 := hS.kept (F' := F2) (fun q q1 q3 => o9 q (by omega))
  have hC2 : CX G F2 c bv (svX X) := ⟨hn, hf, ⟨h9, (o9 (c + 34) (by omega)).trans c34⟩, hh, hS3, ⟨τt, hT.kept (fun q q1 q3 => o9 q (by omega))⟩, ⟨X.sg, hN.kept (fun q q1 q3 => o9 q (by omega)), fun σ e => Option.some.inj e⟩, hR.kept (fun q q1 q3 => o9 q (by omega)), hL.kept (fun q q1 q3 => o9 q (by omega)), hB.kept (fun q q1 q3 => o9 q (by omega)), hO.kept (o9 (c + 41) (by omega)) (o9 bv (by omega)) (Nat.le_of_eq e9.symm)⟩
  have hfr : Fr c (c + 131) F0 F2 := (q2.wide (by omega) (by omega)).step e9 (by omega) (by omega) o9
  clear c0 c34 hR hL hB hO hT hN
  obtain ⟨ef, es, ⟨s0, -⟩, -, hJ, -⟩ := hS3
  obtain ⟨-, -, ⟨j0, -⟩, -⟩ := hJ
  refine AF.aload_n dX8_save_16 rfl ?_
  refine AF.getfield dX8_save_17 fl_X8_10 (by assumption) rfl ?_
  refine AF.getfield dX8_save_20 fl_X8_64 (by assumption) rfl ?_
  refine AF.getfield dX8_save_23 fl_X8_100 (by assumption) rfl ?_
  exact AF.ireturn dX8_save_26 rfl (XQ.fo hC2 hfr (Nat.le_refl _) (Nat.le_refl _) rfl)
set_option maxRecDepth 100000 in
theorem X8_restore_ok (hC : CX G F0 c bv X) (ha : gN G ≤ c) : AC G mX8_restore 11 1 6 [.ref c] F0 (XQ G c bv (reX X) (rx [eSt] (if X.sv.isSome = true then 0 else 1) (.int (nI (X.sv.getD s0).J.length))) F0) := by
  have hC0 := hC
  obtain ⟨hn, hf, ⟨c0, c34⟩, hh, hS, ⟨τt, hT⟩, ⟨τs, hV, hV2⟩, hR, hL, hB, hO⟩ := hC
  have hO2 := hO.2
  obtain ⟨ef, es, ⟨s1, -⟩, -, -⟩ := id hS
  obtain ⟨ef2, es2, ⟨v0, -⟩, -, -⟩ := id hV
  refine AC.of [some (.ref c)] rfl (by decide) (Nat.le_of_ble_eq_true rfl) rfl ?_
  refine AF.aload_n dX8_restore_0 rfl ?_
  refine AF.getfield dX8_restore_1 fl_X8_22 (by assumption) rfl ?_
  refine AF.if_ne 18 dX8_restore_4 (by decide) (fun c1 => ?_) (fun c1 => ?_)
  · obtain ⟨σ, e⟩ := Option.isSome_iff_exists.mp (bI_n c1)
    have e2 := hV2 σ e
    subst e2
    have hre : reX X = (τs, X.sv, [], X.tx, X.ou, X.er, X.fa) := by unfold reX; rw [e]
    rw [hre]
    have hp0 : (if X.sv.isSome = true then 0 else 1) = 0 := if_pos (bI_n c1)
    rw [show (X.sv.getD s0).J.length = τs.J.length by rw [e]; rfl]
    refine AF.aload_n dX8_restore_18 rfl ?_
    refine AF.getfield dX8_restore_19 fl_X8_10 (by assumption) rfl ?_
    refine AF.aload_n dX8_restore_22 rfl ?_
    refine AF.getfield dX8_restore_23 fl_X8_19 (by assumption) rfl ?_
    refine AF.vw dX8_restore_26 kv_X8_277 (X7_copyFrom_ok hS hV (by omega) (by omega)) (by assumption) rfl rfl rfl (Nat.le_of_ble_eq_true rfl) (by decide) rfl (fun E F9 q => nomatch q.1) (fun v F q => ?_)
    obtain ⟨q, hN, q2⟩ := q
    cases q
    clear s1 v0 hS
    replace c0 := (q2.2 c (by omega)).trans c0
    replace c34 := (q2.2 (c + 34) (by omega)).trans c34
    replace hV := hV.fr q2 (by omega)
    replace hT := hT.fr q2 (by omega)
    replace hR := hR.kept (fun x x1 x2 => q2.2 x (by omega))
    replace hL := hL.fr q2 (by omega)
    replace hB := hB.kept (fun x x1 x2 => q2.2 x (by omega))
    replace hO := hO.kept (q2.2 (c + 41) (by omega)) (q2.2 bv (by omega)) (Nat.le_of_eq q2.1.symm)
    refine AF.aload_n dX8_restore_29 rfl ?_
    refine AF.iconst (0) dX8_restore_30 (by decide) ?_
    refine AF.putfieldF dX8_restore_31 fp_X8_34 c0 (by omega) (Nat.le_of_ble_eq_true rfl) rfl rfl (Or.inr fq_5_6) ?_
    intro F2 e9 h9 o9
    have hS3 := hN.kept (F' := F2) (fun q q1 q3 => o9 q (by omega))
    have hR2 : RG G F2 c [] hn := ⟨⟨hR.1.1, Nat.zero_le _⟩, fun i hi => by
      obtain ⟨τ, r1, -⟩ := hR.2 i hi
      exact ⟨τ, r1.kept (fun q q1 q3 => o9 q (by omega)), fun k hk => absurd hk (Nat.not_lt_zero _)⟩⟩
    have hC2 : CX G F2 c bv (τs, X.sv, [], X.tx, X.ou, X.er, X.fa) := ⟨hn, hf, ⟨h9, (o9 (c + 34) (by omega)).trans c34⟩, hh, hS3, ⟨τt, hT.kept (fun q q1 q3 => o9 q (by omega))⟩, ⟨τs, hV.kept (fun q q1 q3 => o9 q (by omega)), hV2⟩, hR2, hL.kept (fun q q1 q3 => o9 q (by omega)), hB.kept (fun q q1 q3 => o9 q (by omega)), hO.kept (o9 (c + 41) (by omega)) (o9 bv (by omega)) (Nat.le_of_eq e9.symm)⟩
    have hfr : Fr c (c + 131) F0 F2 := (q2.wide (by omega) (by omega)).step e9 (by omega) (by omega) o9
    clear c0 c34 hR hL hB hO hT hN
    obtain ⟨ef, es, ⟨s1, -⟩, -, hJ, -⟩ := hS3
    obtain ⟨-, -, ⟨j0, -⟩, -⟩ := hJ
    refine AF.aload_n dX8_restore_34 rfl ?_
    refine AF.getfield dX8_restore_35 fl_X8_10 (by assumption) rfl ?_
    refine AF.getfield dX8_restore_38 fl_X8_64 (by assumption) rfl ?_
    refine AF.getfield dX8_restore_41 fl_X8_100 (by assumption) rfl ?_
    exact AF.ireturn dX8_restore_44 rfl (XQ.fo hC2 hfr (Nat.le_refl _) (Nat.le_refl _) hp0)
  · have h1 := bI_z c1
    have hre : reX X = X := by
      unfold reX
      cases e : X.sv with
      | none => rfl
      | some σ => rw [e] at h1; cases h1
    rw [hre]
    have h2 : ¬ X.sv.isSome = true := by rw [h1]; decide
    exact AF.throwSW (bc := 0) (bs := 0) th_X8_318_353_322 dX8_restore_7 dX8_restore_10 dX8_restore_11 dX8_restore_14 dX8_restore_17 rfl (by decide) (Nat.le_of_ble_eq_true rfl) (fun n hn => XQ.x1 hC0 h2 hn)
set_option maxRecDepth 100000 in
set_option maxHeartbeats 1000000 in
theorem X8_undo_ok (hC : CX G F0 c bv X) (ha : gN G ≤ c) : AC G mX8_undo 11 1 6 [.ref c] F0 (XQ G c bv (unX X) (rx [eSt] (if X.hs.length = 0 then 1 else 0) (.int (nI (X.hs.length - 1)))) F0) := by
  have hC0 := hC
  obtain ⟨hn, hf, ⟨c0, c34⟩, hh, hS, ⟨τt, hT⟩, ⟨τs, hV, hV2⟩, hR, hL, hB, hO⟩ := hC
  have hO2 := hO.2
  have hR0 := hR
  obtain ⟨⟨r1, r2⟩, r3⟩ := hR
  obtain ⟨ef, es, ⟨s1, -⟩, -, -⟩ := id hS
  refine AC.of [some (.ref c)] rfl (by decide) (Nat.le_of_ble_eq_true rfl) rfl ?_
  refine AF.aload_n dX8_undo_0 rfl ?_
  refine AF.getfield dX8_undo_1 fl_X8_34 (by assumption) rfl ?_
  refine AF.if_ne 18 dX8_undo_4 (by decide) (fun c1 => ?_) (fun c1 => ?_)
  · have h0 : ¬ X.hs.length = 0 := fun q => c1 (by rw [q]; rfl)
    obtain ⟨k, hk⟩ : ∃ k, k = (hn + 7) % 8 := ⟨_, rfl⟩
    have hk8 : k < 8 := by omega
    obtain ⟨τ, t1, t2⟩ := r3 k hk8
    have e2 := t2 (X.hs.length - 1) (by omega) (by omega)
    subst e2
    obtain ⟨ef2, es2, ⟨t0, -⟩, -, -⟩ := id t1
    have hun : unX X = (hget X.hs (X.hs.length - 1), X.sv, X.hs.take (X.hs.length - 1), X.tx, X.ou, X.er, X.fa) := if_neg h0
    rw [hun]
    have hp0 : (if X.hs.length = 0 then 1 else 0) = 0 := if_neg h0
    have fin : ∀ F1, F1.1 = F0.1 → (∀ q, ¬ q = c → F1.2 q = F0.2 q) → F1.2 c = some (.inr (5, [.ref (c + 1), .ref (c + 12), .ref (c + 23), .int (bI X.sv.isSome), .ref (c + 34), .int (nI k), .int (nI X.hs.length), .ref (c + 35), .ref (c + 38), .ref (c + 41), .int X.er, .int X.fa])) → AF G mX8_undo 11 1 6 (XQ G c bv (hget X.hs (X.hs.length - 1), X.sv, X.hs.take (X.hs.length - 1), X.tx, X.ou, X.er, X.fa) (rx [eSt] (if X.hs.length = 0 then 1 else 0) (.int (nI (X.hs.length - 1)))) F0) F1 40 [some (.ref c)] [] := by
      intro F1 z1 z2 c0
      refine AF.aload_n dX8_undo_40 rfl ?_
      refine AF.dup dX8_undo_41 rfl ?_
      refine AF.getfield dX8_undo_42 fl_X8_34 (by assumption) rfl ?_
      refine AF.iconst (nI 1) dX8_undo_45 (by decide) ?_
      refine AF.isub dX8_undo_46 ?_
      rw [pk_sub (by omega)]
      refine AF.putfieldF dX8_undo_47 fp_X8_34 c0 (by omega) (Nat.le_of_ble_eq_true rfl) rfl rfl (Or.inr fq_5_6) ?_
      intro F2 e9 h9 o9
      have o8 : ∀ q, ¬ q = c → F2.2 q = F0.2 q := fun q hq => (o9 q hq).trans (z2 q hq)
      have e8 : F2.1 = F0.1 := e9.trans z1
      clear c0
      have c0 := h9
      replace c34 := (o8 (c + 34) (by omega)).trans c34
      replace s1 := (o8 (c + 1) (by omega)).trans s1
      have hS2 := hS.kept (F' := F2) (fun q q1 q3 => o8 q (by omega))
      have t3 := t1.kept (F' := F2) (fun q q1 q3 => o8 q (by omega))
      refine AF.aload_n dX8_undo_50 rfl ?_
      refine AF.getfield dX8_undo_51 fl_X8_10 (by assumption) rfl ?_
      refine AF.aload_n dX8_undo_54 rfl ?_
      refine AF.getfield dX8_undo_55 fl_X8_26 (by assumption) rfl ?_
      refine AF.aload_n dX8_undo_58 rfl ?_
      refine AF.getfield dX8_undo_59 fl_X8_30 (by assumption) rfl ?_
      refine AF.aaload k dX8_undo_62 c34 rfl hk8 (by decide) (by rw [hh k hk8]) ?_
      refine AF.vw dX8_undo_63 kv_X8_277 (X7_copyFrom_ok hS2 t3 (by omega) (by omega)) (by assumption) rfl rfl rfl (Nat.le_of_ble_eq_true rfl) (by decide) rfl (fun E F9 q => nomatch q.1) (fun v F q => ?_)
      obtain ⟨q, hN, q2⟩ := q
      cases q
      replace c0 := (q2.2 c (by omega)).trans c0
      replace c34 := (q2.2 (c + 34) (by omega)).trans c34
      have o7 : ∀ q, (q < c + 1 ∨ c + 12 ≤ q) → ¬ q = c → F.2 q = F0.2 q := fun q q1 q3 => (q2.2 q (by omega)).trans (o8 q q3)
      have hC2 : CX G F c bv (hget X.hs (X.hs.length - 1), X.sv, X.hs.take (X.hs.length - 1), X.tx, X.ou, X.er, X.fa) := by
        refine ⟨k, hf, ⟨?_, c34⟩, hh, hN, ⟨τt, hT.kept (fun q q1 q3 => o7 q (by omega) (by omega))⟩, ⟨τs, hV.kept (fun q q1 q3 => o7 q (by omega) (by omega)), hV2⟩, ?_, hL.kept (fun q q1 q3 => o7 q (by omega) (by omega)), hB.kept (fun q q1 q3 => o7 q (by omega) (by omega)), hO.kept (o7 (c + 41) (by omega) (by omega)) (o7 bv (by omega) (by omega)) (by rw [q2.1, e8]; exact Nat.le_refl _)⟩
        · have e7 : (X.hs.take (X.hs.length - 1)).length = X.hs.length - 1 := by rw [List.length_take]; omega
          show F.2 c = some (.inr (5, [_, _, _, _, _, _, .int (nI (X.hs.take (X.hs.length - 1)).length), _, _, _, _, _]))
          rw [e7]
          exact c0
        · have e7 : (X.hs.take (X.hs.length - 1)).length = X.hs.length - 1 := by rw [List.length_take]; omega
          refine ⟨⟨hk8, by show (X.hs.take _).length ≤ 8; omega⟩, fun i hi => ?_⟩
          obtain ⟨τ, w1, w2⟩ := r3 i hi
          refine ⟨τ, w1.kept (fun q q1 q3 => o7 q (by omega) (by omega)), fun j hj e => ?_⟩
          have hj : j < (X.hs.take (X.hs.length - 1)).length := hj
          have e : i = (k + 8 - (X.hs.take (X.hs.length - 1)).length + j) % 8 := e
          rw [e7] at hj e
          rw [w2 j (by omega) (by omega)]
          show hget X.hs j = hget (X.hs.take (X.hs.length - 1)) j
          rw [hget, hget, gd_take hj]
      have hfr : Fr c (c + 131) F0 F := ⟨q2.1.trans e8, fun q hq => o7 q (by omega) (by omega)⟩
      refine AF.aload_n dX8_undo_66 rfl ?_
      refine AF.getfield dX8_undo_67 fl_X8_34 (by assumption) rfl ?_
      exact AF.ireturn dX8_undo_70 rfl (XQ.fo hC2 hfr (Nat.le_refl _) (Nat.le_refl _) hp0)
    refine AF.aload_n dX8_undo_18 rfl ?_
    refine AF.aload_n dX8_undo_19 rfl ?_
    refine AF.getfield dX8_undo_20 fl_X8_30 (by assumption) rfl ?_
    refine AF.if_ne 31 dX8_undo_23 (by decide) (fun c2 => ?_) (fun c2 => ?_)
    · have h7 : ¬ hn = 0 := fun q => c2 (by rw [q]; rfl)
      refine AF.aload_n dX8_undo_31 rfl ?_
      refine AF.getfield dX8_undo_32 fl_X8_30 (by assumption) rfl ?_
      refine AF.iconst (nI 1) dX8_undo_35 (by decide) ?_
      refine AF.isub dX8_undo_36 ?_
      rw [pk_sub (by omega), show hn - 1 = k by omega]
      refine AF.putfieldF dX8_undo_37 fp_X8_30 c0 (by omega) (Nat.le_of_ble_eq_true rfl) rfl rfl (Or.inr fq_5_5) ?_
      intro F2 e9 h9 o9
      exact fin F2 e9 o9 h9
    · have c2 : nI hn = nI 0 := c2
      rw [nI_eq (by omega) (by omega)] at c2
      refine AF.bipush (nI 7) dX8_undo_26 (by decide) ?_
      refine AF.goto 37 dX8_undo_28 (by decide) ?_
      rw [show 7 = k by omega]
      refine AF.putfieldF dX8_undo_37 fp_X8_30 c0 (by omega) (Nat.le_of_ble_eq_true rfl) rfl rfl (Or.inr fq_5_5) ?_
      intro F2 e9 h9 o9
      exact fin F2 e9 o9 h9
  · have c1 : nI X.hs.length = nI 0 := c1
    rw [nI_eq (by omega) (by omega)] at c1
    rw [show unX X = X from if_pos c1]
    exact AF.throwSW (bc := 0) (bs := 0) th_X8_318_351_322 dX8_undo_7 dX8_undo_10 dX8_undo_11 dX8_undo_14 dX8_undo_17 rfl (by decide) (Nat.le_of_ble_eq_true rfl) (fun n hn => XQ.x hC0 (by rw [if_pos c1]; decide) (by rw [if_pos c1]; rfl) hn)
end

