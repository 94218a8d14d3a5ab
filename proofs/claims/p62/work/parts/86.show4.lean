/-! The show: what is remembered, its changes. -/
theorem RG.push {G : GA} {F F' : AH} {c hn : Nat} {Hs : List Sg} {σ : Sg} (h : RG G F c Hs hn) (hS : SA G F' (c + 43 + 11 * hn) σ) (q : Fr (c + 43 + 11 * hn) (c + 43 + 11 * hn + 11) F F') : RG G F' c (pushH Hs σ) (if hn = 7 then 0 else hn + 1) := by
  obtain ⟨⟨h1, h2⟩, h3⟩ := h
  have hl := pushH_len (σ := σ) h2
  refine ⟨⟨by split <;> omega, pushH_le h2⟩, fun i hi => ?_⟩
  by_cases e : i = hn
  · subst e
    refine ⟨σ, hS, fun k hk e => ?_⟩
    have e8 : k + 1 = (pushH Hs σ).length := by
      rw [hl] at hk e ⊢
      by_cases q1 : i = 7 <;> by_cases q2 : Hs.length = 8 <;> simp only [q1, q2, if_true, if_false] at hk e ⊢ <;> omega
    unfold pushH at e8 ⊢
    rw [hget_app, if_pos]
    rw [List.length_append, List.length_singleton] at e8
    omega
  · obtain ⟨τ, t1, t2⟩ := h3 i hi
    refine ⟨τ, t1.fr q (by omega), fun k hk e9 => ?_⟩
    rw [hl] at hk e9
    by_cases q2 : Hs.length = 8
    · rw [if_pos q2] at hk e9
      have hk7 : ¬ k = 7 := by
        intro q3
        subst q3
        by_cases q1 : hn = 7 <;> simp only [q1, if_true, if_false] at e9 <;> omega
      rw [t2 (k + 1) (by omega) (by by_cases q1 : hn = 7 <;> simp only [q1, if_true, if_false] at e9 <;> omega)]
      unfold pushH
      rw [if_pos q2, hget_app, if_neg (by rw [List.length_eraseIdx_of_lt (by omega)]; omega), hget_era]
    · rw [if_neg q2] at hk e9
      have hk7 : ¬ k = Hs.length := by
        intro q3
        subst q3
        by_cases q1 : hn = 7 <;> simp only [q1, if_true, if_false] at e9 <;> omega
      rw [t2 k (by omega) (by by_cases q1 : hn = 7 <;> simp only [q1, if_true, if_false] at e9 <;> omega)]
      unfold pushH
      rw [if_neg q2, hget_app, if_neg hk7]
section
variable {G : GA} {F : AH} {c bv B : Nat} {X : XS}
set_option maxRecDepth 100000 in
set_option maxHeartbeats 2000000 in
theorem X8_remember_ok {F0 : AH} (hC : CX G F0 c bv X) (ha : gN G ≤ c) : AC G mX8_remember 3 0 0 [.ref c] F0 (RM G c bv X F0) := by
  obtain ⟨hn, hf, ⟨c0, c34⟩, hh, hS, ⟨τt, hT⟩, ⟨τs, hV, hV2⟩, hR, hL, hB, hO⟩ := hC
  have hO2 := hO.2
  have hR0 := hR
  obtain ⟨⟨r1, r2⟩, r3⟩ := hR
  obtain ⟨τ, t1, -⟩ := r3 hn r1
  refine AC.of [some (.ref c)] rfl (by decide) (Nat.le_of_ble_eq_true rfl) rfl ?_
  refine AF.aload_n dX8_remember_0 rfl ?_
  refine AF.getfield dX8_remember_1 fl_X8_26 (by assumption) rfl ?_
  refine AF.aload_n dX8_remember_4 rfl ?_
  refine AF.getfield dX8_remember_5 fl_X8_30 (by assumption) rfl ?_
  refine AF.aaload hn dX8_remember_8 c34 rfl r1 (by decide) (by rw [hh hn r1]) ?_
  refine AF.aload_n dX8_remember_9 rfl ?_
  refine AF.getfield dX8_remember_10 fl_X8_10 (by assumption) rfl ?_
  refine AF.vw dX8_remember_13 kv_X8_277 (X7_copyFrom_ok t1 hS (by omega) (by omega)) (by obtain ⟨_, _, ⟨s0, -⟩, -⟩ := t1; exact s0) rfl rfl rfl (Nat.le_of_ble_eq_true rfl) (by decide) rfl (fun E F9 q => nomatch q.1) (fun v F q => ?_)
  obtain ⟨q, hS2, q2⟩ := q
  cases q
  have hR2 := hR0.push hS2 q2
  replace c0 := (q2.2 c (by omega)).trans c0
  replace c34 := (q2.2 (c + 34) (by omega)).trans c34
  replace hS := hS.fr q2 (by omega)
  replace hT := hT.fr q2 (by omega)
  replace hV := hV.fr q2 (by omega)
  replace hL := hL.fr q2 (by omega)
  replace hB := hB.kept (fun x x1 x2 => q2.2 x (by omega))
  replace hO := hO.kept (q2.2 (c + 41) (by omega)) (q2.2 bv (by omega)) (Nat.le_of_eq q2.1.symm)
  have hfr : Fr c (c + 131) F0 F := q2.wide (by omega) (by omega)
  have hkp : ∀ q, c < q → q < c + 43 → F.2 q = F0.2 q := fun q a b => q2.2 q (by omega)
  clear q2 hS2 hR0 r3 t1
  have em : min (X.hs.length + 1) 8 = (pushH X.hs X.sg).length := by
    rw [pushH_len r2]
    split <;> omega
  have fin : ∀ k F1, (if hn = 7 then 0 else hn + 1) = k → Fr c (c + 131) F0 F1 → F1.1 = F.1 → (∀ q, ¬ q = c → F1.2 q = F.2 q) → F1.2 c = some (.inr (5, [.ref (c + 1), .ref (c + 12), .ref (c + 23), .int (bI X.sv.isSome), .ref (c + 34), .int (nI k), .int (nI X.hs.length), .ref (c + 35), .ref (c + 38), .ref (c + 41), .int X.er, .int X.fa])) → AF G mX8_remember 3 0 0 (RM G c bv X F0) F1 39 [some (.ref c)] [] := by
    intro k F1 hk hfr z1 z2 c0
    rw [hk] at hR2
    refine AF.aload_n dX8_remember_39 rfl ?_
    refine AF.aload_n dX8_remember_40 rfl ?_
    refine AF.getfield dX8_remember_41 fl_X8_34 (by assumption) rfl ?_
    refine AF.iconst (nI 1) dX8_remember_44 (by decide) ?_
    refine AF.iadd dX8_remember_45 ?_
    rw [nI_add]
    refine AF.bipush (nI 8) dX8_remember_46 (by decide) ?_
    refine AF.min dX8_remember_48 km_X8_355 (Nat.le_of_ble_eq_true rfl) (by decide) ?_
    rw [nI_min (by omega) (by omega), em]
    refine AF.putfieldF dX8_remember_51 fp_X8_34 c0 (by omega) (Nat.le_of_ble_eq_true rfl) rfl rfl (Or.inr fq_5_6) ?_
    intro F2 e9 h9 o9
    have o8 : ∀ q, ¬ q = c → F2.2 q = F.2 q := fun q hq => (o9 q hq).trans (z2 q hq)
    refine AF.vreturn dX8_remember_54 rfl ⟨rfl, ⟨k, hf, ⟨h9, (o8 (c + 34) (by omega)).trans c34⟩, hh, hS.kept (fun q q1 q3 => o8 q (by omega)), ⟨τt, hT.kept (fun q q1 q3 => o8 q (by omega))⟩, ⟨τs, hV.kept (fun q q1 q3 => o8 q (by omega)), hV2⟩, hR2.kept (fun q q1 q3 => o8 q (by omega)), hL.kept (fun q q1 q3 => o8 q (by omega)), hB.kept (fun q q1 q3 => o8 q (by omega)), hO.kept (o8 (c + 41) (by omega)) (o8 bv (by omega)) (by rw [e9, z1]; exact Nat.le_refl _)⟩, hfr.step e9 (by omega) (by omega) o9, fun q a b => (o8 q (by omega)).trans (hkp q a b)⟩
  refine AF.aload_n dX8_remember_16 rfl ?_
  refine AF.aload_n dX8_remember_17 rfl ?_
  refine AF.getfield dX8_remember_18 fl_X8_30 (by assumption) rfl ?_
  refine AF.bipush (nI 7) dX8_remember_21 (by decide) ?_
  refine AF.icmp_ne 30 dX8_remember_23 (by decide) (fun c1 => ?_) (fun c1 => ?_)
  · rw [nI_eq (by omega) (by omega)] at c1
    refine AF.aload_n dX8_remember_30 rfl ?_
    refine AF.getfield dX8_remember_31 fl_X8_30 (by assumption) rfl ?_
    refine AF.iconst (nI 1) dX8_remember_34 (by decide) ?_
    refine AF.iadd dX8_remember_35 ?_
    rw [nI_add]
    refine AF.putfieldF dX8_remember_36 fp_X8_30 c0 (by omega) (Nat.le_of_ble_eq_true rfl) rfl rfl (Or.inr fq_5_5) ?_
    intro F2 e9 h9 o9
    exact fin (hn + 1) F2 (if_neg c1) (hfr.step e9 (by omega) (by omega) o9) e9 o9 h9
  · rw [nI_eq (by omega) (by omega)] at c1
    refine AF.iconst (nI 0) dX8_remember_26 (by decide) ?_
    refine AF.goto 36 dX8_remember_27 (by decide) ?_
    refine AF.putfieldF dX8_remember_36 fp_X8_30 c0 (by omega) (Nat.le_of_ble_eq_true rfl) rfl rfl (Or.inr fq_5_5) ?_
    intro F2 e9 h9 o9
    exact fin 0 F2 (if_pos c1) (hfr.step e9 (by omega) (by omega) o9) e9 o9 h9
set_option maxRecDepth 100000 in
set_option maxHeartbeats 2000000 in
theorem X8_addJet_ok (hC : CX G F c bv X) (ha : gN G ≤ c) (hI : SQ X.sg B) (x : Int32) : AC G mX8_addJet 11 1 6 [.ref c, .int x] F (XQ G c bv (chX X (aJet X.sg x) (pAdd X.sg.J x - 1)) (rx [eAr, eUn, eSt] (pAdd X.sg.J x - 1) (.int (nI X.sg.J.length))) F) := by
  have hC0 := hC
  obtain ⟨hn, hf, ⟨c0, -⟩, -, hS, -⟩ := hC
  have hS0 := hS
  obtain ⟨ef, es, ⟨s0, s9, s10⟩, hE, hJ, hG⟩ := hS
  have hJ0 := hJ
  obtain ⟨f, g, ⟨j0, j1, j2⟩, l, hfg⟩ := hJ
  have hG0 := hG
  obtain ⟨sc, dl, jt, op, ⟨g0, g1, g2, g3v, g4⟩, hR⟩ := hG
  obtain ⟨⟨i1, i2, i3, i4, i5⟩, i6, i7, i8, i9, i10⟩ := id hI
  refine AC.of [some (.ref c), some (.int x)] rfl (by decide) (Nat.le_of_ble_eq_true rfl) rfl ?_
  refine AF.aload_n dX8_addJet_0 rfl ?_
  refine AF.getfield dX8_addJet_1 fl_X8_10 (by assumption) rfl ?_
  refine AF.getfield dX8_addJet_4 fl_X8_64 (by assumption) rfl ?_
  refine AF.iload_n dX8_addJet_7 rfl ?_
  refine AF.v1 dX8_addJet_8 kv_X8_68 ((X3_problemOfAdding_ok hJ0 x)) (by assumption) rfl rfl rfl (Nat.le_of_ble_eq_true rfl) (by decide) rfl ?_
  refine AF.callS (bc := 0) (bs := 0) (mc' := 1) (ms' := 6) dX8_addJet_11 kv_X8_74 (X8_refuse_ok (pAdd X.sg.J x) (by have := pAdd_v (J := X.sg.J) (x := x); omega)) rfl rfl (Nat.le_of_ble_eq_true rfl) (by decide) rfl (fun E F' q => ?_) (fun v F' q => ?_)
  · obtain ⟨h, rfl, n, hn, rfl⟩ := q.x
    have hv := pAdd_v (J := X.sg.J) (x := x)
    refine XQ.cx hC0 ?_ ?_ hn
    · rcases hv with e | e | e | e <;> rw [e] at h ⊢ <;> first | exact absurd rfl h | decide
    · rcases hv with e | e | e | e <;> rw [e] at h ⊢ <;> first | exact absurd rfl h | rfl
  · obtain ⟨hp, rfl, rfl⟩ := q.n
    have hp0 : (pAdd X.sg.J x - 1) = 0 := by rw [hp]
    obtain ⟨-, x1, x2, x3⟩ := hI.jet hp
    rw [show some (Value.int x) = some (.int (nI (cl x))) from congrArg (fun z => some (Value.int z)) x2]
    refine AF.aload_n dX8_addJet_14 rfl ?_
    refine AF.vw dX8_addJet_15 kv_X8_78 (X8_remember_ok hC0 ha) (by assumption) rfl rfl rfl (Nat.le_of_ble_eq_true rfl) (by decide) rfl (fun E F9 q => nomatch q.1) (fun v F q => ?_)
    obtain ⟨q, hC2, q2, -⟩ := q
    cases q
    clear c0 s0 s9 s10 hJ0 j0 j1 j2 hG0 g0 g1 g2 g3v g4 hE l hfg hR hC0 hS0
    have hC3 := hC2
    obtain ⟨hn, hf, ⟨c0, -⟩, -, hS, -⟩ := hC2
    have hS : SA G _ (c + 1) X.sg := hS
    have hS0 := hS
    obtain ⟨ef, es, ⟨s0, s9, s10⟩, hE, hJ, hG⟩ := hS
    have hJ0 := hJ
    obtain ⟨f, g, ⟨j0, j1, j2⟩, l, hfg⟩ := hJ
    have hG0 := hG
    obtain ⟨sc, dl, jt, op, ⟨g0, g1, g2, g3v, g4⟩, hR⟩ := hG
    refine AF.aload_n dX8_addJet_18 rfl ?_
    refine AF.getfield dX8_addJet_19 fl_X8_10 (by assumption) rfl ?_
    refine AF.getfield dX8_addJet_22 fl_X8_64 (by assumption) rfl ?_
    refine AF.iload_n dX8_addJet_25 rfl ?_
    refine AF.vw dX8_addJet_26 kv_X8_81 (X3_append_ok hJ0 (by omega) (cl x) x3) (by assumption) rfl rfl rfl (Nat.le_of_ble_eq_true rfl) (by decide) rfl (fun E F9 q => nomatch q.1) (fun v F q => ?_)
    obtain ⟨q, hN, q3⟩ := q
    cases q
    exact AF.ireturn dX8_addJet_29 rfl (XQ.cn hC3 q2 (hS0.jt hN q3) (q3.wide (by omega) (by omega)) hp0)
set_option maxRecDepth 100000 in
set_option maxHeartbeats 2000000 in
theorem X8_setOpening_ok (hC : CX G F c bv X) (ha : gN G ≤ c) (hI : SQ X.sg B) (x y : Int32) : AC G mX8_setOpening 11 1 6 [.ref c, .int x, .int y] F (XQ G c bv (chX X (aOpn X.sg x y) (pOpn X.sg.J.length x y)) (rx [eIx, eAr] (pOpn X.sg.J.length x y) (.int (nI (jo X.sg.J (cl x))))) F) := by
  have hC0 := hC
  obtain ⟨hn, hf, ⟨c0, -⟩, -, hS, -⟩ := hC
  have hS0 := hS
  obtain ⟨ef, es, ⟨s0, s9, s10⟩, hE, hJ, hG⟩ := hS
  have hJ0 := hJ
  obtain ⟨f, g, ⟨j0, j1, j2⟩, l, hfg⟩ := hJ
  have hG0 := hG
  obtain ⟨sc, dl, jt, op, ⟨g0, g1, g2, g3v, g4⟩, hR⟩ := hG
  obtain ⟨⟨i1, i2, i3, i4, i5⟩, i6, i7, i8, i9, i10⟩ := id hI
  refine AC.of [some (.ref c), some (.int x), some (.int y)] rfl (by decide) (Nat.le_of_ble_eq_true rfl) rfl ?_
  refine AF.aload_n dX8_setOpening_0 rfl ?_
  refine AF.getfield dX8_setOpening_1 fl_X8_10 (by assumption) rfl ?_
  refine AF.getfield dX8_setOpening_4 fl_X8_64 (by assumption) rfl ?_
  refine AF.iload_n dX8_setOpening_7 rfl ?_
  refine AF.iload_n dX8_setOpening_8 rfl ?_
  refine AF.v1 dX8_setOpening_9 kv_X8_92 ((X3_problemOfOpening_ok hJ0 x y)) (by assumption) rfl rfl rfl (Nat.le_of_ble_eq_true rfl) (by decide) rfl ?_
  refine AF.callS (bc := 0) (bs := 0) (mc' := 1) (ms' := 6) dX8_setOpening_12 kv_X8_74 (X8_refuse_ok (pOpn X.sg.J.length x y) (by have := pOpn_v (n := X.sg.J.length) (x := x) (y := y); omega)) rfl rfl (Nat.le_of_ble_eq_true rfl) (by decide) rfl (fun E F' q => ?_) (fun v F' q => ?_)
  · obtain ⟨h, rfl, n, hn, rfl⟩ := q.x
    have hv := pOpn_v (n := X.sg.J.length) (x := x) (y := y)
    refine XQ.cx hC0 ?_ ?_ hn
    · rcases hv with e | e | e <;> rw [e] at h ⊢ <;> first | exact absurd rfl h | decide
    · rcases hv with e | e | e <;> rw [e] at h ⊢ <;> first | exact absurd rfl h | rfl
  · obtain ⟨hp, rfl, rfl⟩ := q.n
    have hp0 := hp
    obtain ⟨-, x1, x2, x3, x4⟩ := hI.opn hp
    rw [show some (Value.int x) = some (.int (nI (cl x))) from congrArg (fun z => some (Value.int z)) x2]
    rw [show some (Value.int y) = some (.int (nI (cl y))) from congrArg (fun z => some (Value.int z)) x4]
    refine AF.aload_n dX8_setOpening_15 rfl ?_
    refine AF.vw dX8_setOpening_16 kv_X8_78 (X8_remember_ok hC0 ha) (by assumption) rfl rfl rfl (Nat.le_of_ble_eq_true rfl) (by decide) rfl (fun E F9 q => nomatch q.1) (fun v F q => ?_)
    obtain ⟨q, hC2, q2, -⟩ := q
    cases q
    clear c0 s0 s9 s10 hJ0 j0 j1 j2 hG0 g0 g1 g2 g3v g4 hE l hfg hR hC0 hS0
    have hC3 := hC2
    obtain ⟨hn, hf, ⟨c0, -⟩, -, hS, -⟩ := hC2
    have hS : SA G _ (c + 1) X.sg := hS
    have hS0 := hS
    obtain ⟨ef, es, ⟨s0, s9, s10⟩, hE, hJ, hG⟩ := hS
    have hJ0 := hJ
    obtain ⟨f, g, ⟨j0, j1, j2⟩, l, hfg⟩ := hJ
    have hG0 := hG
    obtain ⟨sc, dl, jt, op, ⟨g0, g1, g2, g3v, g4⟩, hR⟩ := hG
    refine AF.aload_n dX8_setOpening_19 rfl ?_
    refine AF.getfield dX8_setOpening_20 fl_X8_10 (by assumption) rfl ?_
    refine AF.getfield dX8_setOpening_23 fl_X8_64 (by assumption) rfl ?_
    refine AF.iload_n dX8_setOpening_26 rfl ?_
    refine AF.iload_n dX8_setOpening_27 rfl ?_
    refine AF.vw dX8_setOpening_28 kv_X8_96 (X3_changeOpening_ok hJ0 (by omega) (cl x) (cl y) x1) (by assumption) rfl rfl rfl (Nat.le_of_ble_eq_true rfl) (by decide) rfl (fun E F9 q => nomatch q.1) (fun v F q => ?_)
    obtain ⟨q, hN, q3⟩ := q
    cases q
    exact AF.ireturn dX8_setOpening_31 rfl (XQ.cn hC3 q2 (hS0.jt hN q3) (q3.wide (by omega) (by omega)) hp0)
set_option maxRecDepth 100000 in
set_option maxHeartbeats 2000000 in
theorem X8_setCapacity_ok (hC : CX G F c bv X) (ha : gN G ≤ c) (hI : SQ X.sg B) (x : Int32) : AC G mX8_setCapacity 11 1 6 [.ref c, .int x] F (XQ G c bv (chX X (aCap X.sg x) (pCap x / 2)) (rx [eAr] (pCap x / 2) (.int (nI X.sg.cap))) F) := by
  have hC0 := hC
  obtain ⟨hn, hf, ⟨c0, -⟩, -, hS, -⟩ := hC
  have hS0 := hS
  obtain ⟨ef, es, ⟨s0, s9, s10⟩, hE, hJ, hG⟩ := hS
  have hJ0 := hJ
  obtain ⟨f, g, ⟨j0, j1, j2⟩, l, hfg⟩ := hJ
  have hG0 := hG
  obtain ⟨sc, dl, jt, op, ⟨g0, g1, g2, g3v, g4⟩, hR⟩ := hG
  obtain ⟨⟨i1, i2, i3, i4, i5⟩, i6, i7, i8, i9, i10⟩ := id hI
  refine AC.of [some (.ref c), some (.int x)] rfl (by decide) (Nat.le_of_ble_eq_true rfl) rfl ?_
  refine AF.aload_n dX8_setCapacity_0 rfl ?_
  refine AF.getfield dX8_setCapacity_1 fl_X8_10 (by assumption) rfl ?_
  refine AF.getfield dX8_setCapacity_4 fl_X8_64 (by assumption) rfl ?_
  refine AF.iload_n dX8_setCapacity_7 rfl ?_
  refine AF.v1 dX8_setCapacity_8 kv_X8_156 ((X3_problemOfCapacity_ok x)) (by assumption) rfl rfl rfl (Nat.le_of_ble_eq_true rfl) (by decide) rfl ?_
  refine AF.callS (bc := 0) (bs := 0) (mc' := 1) (ms' := 6) dX8_setCapacity_11 kv_X8_74 (X8_refuse_ok (pCap x) (by have := pCap_v (x := x); omega)) rfl rfl (Nat.le_of_ble_eq_true rfl) (by decide) rfl (fun E F' q => ?_) (fun v F' q => ?_)
  · obtain ⟨h, rfl, n, hn, rfl⟩ := q.x
    have hv := pCap_v (x := x)
    refine XQ.cx hC0 ?_ ?_ hn
    · rcases hv with e | e <;> rw [e] at h ⊢ <;> first | exact absurd rfl h | decide
    · rcases hv with e | e <;> rw [e] at h ⊢ <;> first | exact absurd rfl h | rfl
  · obtain ⟨hp, rfl, rfl⟩ := q.n
    have hp0 : pCap x / 2 = 0 := by rw [hp]
    obtain ⟨-, x1, x2⟩ := hI.capq hp
    rw [show some (Value.int x) = some (.int (nI (cl x))) from congrArg (fun z => some (Value.int z)) x2]
    refine AF.aload_n dX8_setCapacity_14 rfl ?_
    refine AF.vw dX8_setCapacity_15 kv_X8_78 (X8_remember_ok hC0 ha) (by assumption) rfl rfl rfl (Nat.le_of_ble_eq_true rfl) (by decide) rfl (fun E F9 q => nomatch q.1) (fun v F q => ?_)
    obtain ⟨q, hC2, q2, -⟩ := q
    cases q
    clear c0 s0 s9 s10 hJ0 j0 j1 j2 hG0 g0 g1 g2 g3v g4 hE l hfg hR hC0 hS0
    have hC3 := hC2
    obtain ⟨hn, hf, ⟨c0, -⟩, -, hS, -⟩ := hC2
    have hS : SA G _ (c + 1) X.sg := hS
    have hS0 := hS
    obtain ⟨ef, es, ⟨s0, s9, s10⟩, hE, hJ, hG⟩ := hS
    have hJ0 := hJ
    obtain ⟨f, g, ⟨j0, j1, j2⟩, l, hfg⟩ := hJ
    have hG0 := hG
    obtain ⟨sc, dl, jt, op, ⟨g0, g1, g2, g3v, g4⟩, hR⟩ := hG
    refine AF.aload_n dX8_setCapacity_18 rfl ?_
    refine AF.getfield dX8_setCapacity_19 fl_X8_10 (by assumption) rfl ?_
    refine AF.getfield dX8_setCapacity_22 fl_X8_64 (by assumption) rfl ?_
    refine AF.iload_n dX8_setCapacity_25 rfl ?_
    refine AF.vw dX8_setCapacity_26 kv_X8_159 (X3_changeCapacity_ok hJ0 (by omega) (cl x)) (by assumption) rfl rfl rfl (Nat.le_of_ble_eq_true rfl) (by decide) rfl (fun E F9 q => nomatch q.1) (fun v F q => ?_)
    obtain ⟨q, hN, q3⟩ := q
    cases q
    exact AF.ireturn dX8_setCapacity_29 rfl (XQ.cn hC3 q2 (hS0.jt hN q3) (q3.wide (by omega) (by omega)) hp0)
set_option maxRecDepth 100000 in
set_option maxHeartbeats 2000000 in
theorem X8_setWind_ok (hC : CX G F c bv X) (ha : gN G ≤ c) (hI : SQ X.sg B) (x : Int32) : AC G mX8_setWind 11 1 6 [.ref c, .int x] F (XQ G c bv (chX X (aWnd X.sg x) (pWnd x / 2)) (rx [eAr] (pWnd x / 2) (.int X.sg.w)) F) := by
  have hC0 := hC
  obtain ⟨hn, hf, ⟨c0, -⟩, -, hS, -⟩ := hC
  have hS0 := hS
  obtain ⟨ef, es, ⟨s0, s9, s10⟩, hE, hJ, hG⟩ := hS
  have hJ0 := hJ
  obtain ⟨f, g, ⟨j0, j1, j2⟩, l, hfg⟩ := hJ
  have hG0 := hG
  obtain ⟨sc, dl, jt, op, ⟨g0, g1, g2, g3v, g4⟩, hR⟩ := hG
  obtain ⟨⟨i1, i2, i3, i4, i5⟩, i6, i7, i8, i9, i10⟩ := id hI
  refine AC.of [some (.ref c), some (.int x)] rfl (by decide) (Nat.le_of_ble_eq_true rfl) rfl ?_
  refine AF.aload_n dX8_setWind_0 rfl ?_
  refine AF.getfield dX8_setWind_1 fl_X8_10 (by assumption) rfl ?_
  refine AF.getfield dX8_setWind_4 fl_X8_64 (by assumption) rfl ?_
  refine AF.iload_n dX8_setWind_7 rfl ?_
  refine AF.v1 dX8_setWind_8 kv_X8_162 ((X3_problemOfWind_ok x)) (by assumption) rfl rfl rfl (Nat.le_of_ble_eq_true rfl) (by decide) rfl ?_
  refine AF.callS (bc := 0) (bs := 0) (mc' := 1) (ms' := 6) dX8_setWind_11 kv_X8_74 (X8_refuse_ok (pWnd x) (by have := pWnd_v (x := x); omega)) rfl rfl (Nat.le_of_ble_eq_true rfl) (by decide) rfl (fun E F' q => ?_) (fun v F' q => ?_)
  · obtain ⟨h, rfl, n, hn, rfl⟩ := q.x
    have hv := pWnd_v (x := x)
    refine XQ.cx hC0 ?_ ?_ hn
    · rcases hv with e | e <;> rw [e] at h ⊢ <;> first | exact absurd rfl h | decide
    · rcases hv with e | e <;> rw [e] at h ⊢ <;> first | exact absurd rfl h | rfl
  · obtain ⟨hp, rfl, rfl⟩ := q.n
    have hp0 : pWnd x / 2 = 0 := by rw [hp]
    refine AF.aload_n dX8_setWind_14 rfl ?_
    refine AF.vw dX8_setWind_15 kv_X8_78 (X8_remember_ok hC0 ha) (by assumption) rfl rfl rfl (Nat.le_of_ble_eq_true rfl) (by decide) rfl (fun E F9 q => nomatch q.1) (fun v F q => ?_)
    obtain ⟨q, hC2, q2, -⟩ := q
    cases q
    clear c0 s0 s9 s10 hJ0 j0 j1 j2 hG0 g0 g1 g2 g3v g4 hE l hfg hR hC0 hS0
    have hC3 := hC2
    obtain ⟨hn, hf, ⟨c0, -⟩, -, hS, -⟩ := hC2
    have hS : SA G _ (c + 1) X.sg := hS
    have hS0 := hS
    obtain ⟨ef, es, ⟨s0, s9, s10⟩, hE, hJ, hG⟩ := hS
    have hJ0 := hJ
    obtain ⟨f, g, ⟨j0, j1, j2⟩, l, hfg⟩ := hJ
    have hG0 := hG
    obtain ⟨sc, dl, jt, op, ⟨g0, g1, g2, g3v, g4⟩, hR⟩ := hG
    refine AF.aload_n dX8_setWind_18 rfl ?_
    refine AF.getfield dX8_setWind_19 fl_X8_10 (by assumption) rfl ?_
    refine AF.getfield dX8_setWind_22 fl_X8_64 (by assumption) rfl ?_
    refine AF.iload_n dX8_setWind_25 rfl ?_
    refine AF.vw dX8_setWind_26 kv_X8_165 (X3_changeWind_ok hJ0 (by omega) x) (by assumption) rfl rfl rfl (Nat.le_of_ble_eq_true rfl) (by decide) rfl (fun E F9 q => nomatch q.1) (fun v F q => ?_)
    obtain ⟨q, hN, q3⟩ := q
    cases q
    exact AF.ireturn dX8_setWind_29 rfl (XQ.cn hC3 q2 (hS0.jt hN q3) (q3.wide (by omega) (by omega)) hp0)
theorem pFgA_v {n : Nat} : (if n < 5 then 0 else 4) = 0 ∨ (if n < 5 then 0 else 4) = 4 := by split <;> simp
set_option maxRecDepth 100000 in
set_option maxHeartbeats 2000000 in
theorem X8_addFigure_ok (hC : CX G F c bv X) (ha : gN G ≤ c) (hI : SQ X.sg B) : AC G mX8_addFigure 11 1 6 [.ref c] F (XQ G c bv (chX X (aFig X.sg) (if X.sg.Fg.length < 5 then 0 else 1)) (rx [eSt] (if X.sg.Fg.length < 5 then 0 else 1) (.int (nI X.sg.Fg.length))) F) := by
  have hC0 := hC
  obtain ⟨hn, hf, ⟨c0, -⟩, -, hS, -⟩ := hC
  have hS0 := hS
  obtain ⟨ef, es, ⟨s0, s9, s10⟩, hE, hJ, hG⟩ := hS
  have hJ0 := hJ
  obtain ⟨f, g, ⟨j0, j1, j2⟩, l, hfg⟩ := hJ
  have hG0 := hG
  obtain ⟨sc, dl, jt, op, ⟨g0, g1, g2, g3v, g4⟩, hR⟩ := hG
  obtain ⟨⟨i1, i2, i3, i4, i5⟩, i6, i7, i8, i9, i10⟩ := id hI
  refine AC.of [some (.ref c)] rfl (by decide) (Nat.le_of_ble_eq_true rfl) rfl ?_
  refine AF.aload_n dX8_addFigure_0 rfl ?_
  refine AF.getfield dX8_addFigure_1 fl_X8_10 (by assumption) rfl ?_
  refine AF.getfield dX8_addFigure_4 fl_X8_187 (by assumption) rfl ?_
  refine AF.v1 dX8_addFigure_7 kv_X8_191 ((X2_problemOfAdding_ok hG0)) (by assumption) rfl rfl rfl (Nat.le_of_ble_eq_true rfl) (by decide) rfl ?_
  refine AF.callS (bc := 0) (bs := 0) (mc' := 1) (ms' := 6) dX8_addFigure_10 kv_X8_74 (X8_refuse_ok (if X.sg.Fg.length < 5 then 0 else 4) (by split <;> omega)) rfl rfl (Nat.le_of_ble_eq_true rfl) (by decide) rfl (fun E F' q => ?_) (fun v F' q => ?_)
  · obtain ⟨h, rfl, n, hn, rfl⟩ := q.x
    have h5 : ¬ X.sg.Fg.length < 5 := fun q => h (if_pos q)
    refine XQ.cx hC0 (by rw [if_neg h5]; decide) (by rw [if_neg h5, if_neg h5]; rfl) hn
  · obtain ⟨hp, rfl, rfl⟩ := q.n
    have h5 : X.sg.Fg.length < 5 := by
      split at hp
      · assumption
      · cases hp
    have hp0 : (if X.sg.Fg.length < 5 then 0 else 1) = 0 := if_pos h5
    refine AF.aload_n dX8_addFigure_13 rfl ?_
    refine AF.vw dX8_addFigure_14 kv_X8_78 (X8_remember_ok hC0 ha) (by assumption) rfl rfl rfl (Nat.le_of_ble_eq_true rfl) (by decide) rfl (fun E F9 q => nomatch q.1) (fun v F q => ?_)
    obtain ⟨q, hC2, q2, -⟩ := q
    cases q
    clear c0 s0 s9 s10 hJ0 j0 j1 j2 hG0 g0 g1 g2 g3v g4 hE l hfg hR hC0 hS0
    have hC3 := hC2
    obtain ⟨hn, hf, ⟨c0, -⟩, -, hS, -⟩ := hC2
    have hS : SA G _ (c + 1) X.sg := hS
    have hS0 := hS
    obtain ⟨ef, es, ⟨s0, s9, s10⟩, hE, hJ, hG⟩ := hS
    have hJ0 := hJ
    obtain ⟨f, g, ⟨j0, j1, j2⟩, l, hfg⟩ := hJ
    have hG0 := hG
    obtain ⟨sc, dl, jt, op, ⟨g0, g1, g2, g3v, g4⟩, hR⟩ := hG
    refine AF.aload_n dX8_addFigure_17 rfl ?_
    refine AF.getfield dX8_addFigure_18 fl_X8_10 (by assumption) rfl ?_
    refine AF.getfield dX8_addFigure_21 fl_X8_187 (by assumption) rfl ?_
    refine AF.vw dX8_addFigure_24 kv_X8_196 (X2_append_ok hG0 (by omega) h5) (by assumption) rfl rfl rfl (Nat.le_of_ble_eq_true rfl) (by decide) rfl (fun E F9 q => nomatch q.1) (fun v F q => ?_)
    obtain ⟨q, hN, q3⟩ := q
    cases q
    exact AF.ireturn dX8_addFigure_27 rfl (XQ.cn hC3 q2 (hS0.fgu hN q3) (q3.wide (by omega) (by omega)) hp0)
set_option maxRecDepth 100000 in
set_option maxHeartbeats 2000000 in
theorem X8_removeFigure_ok (hC : CX G F c bv X) (ha : gN G ≤ c) (hI : SQ X.sg B) (x : Int32) : AC G mX8_removeFigure 11 1 6 [.ref c, .int x] F (XQ G c bv (chX X (aRmF X.sg x) (if pDrF X.sg x = 4 then 2 else pDrF X.sg x)) (rx [eIx, eSt] (if pDrF X.sg x = 4 then 2 else pDrF X.sg x) (.int (nI (fg X.sg.Fg (cl x)).length))) F) := by
  have hC0 := hC
  obtain ⟨hn, hf, ⟨c0, -⟩, -, hS, -⟩ := hC
  have hS0 := hS
  obtain ⟨ef, es, ⟨s0, s9, s10⟩, hE, hJ, hG⟩ := hS
  have hJ0 := hJ
  obtain ⟨f, g, ⟨j0, j1, j2⟩, l, hfg⟩ := hJ
  have hG0 := hG
  obtain ⟨sc, dl, jt, op, ⟨g0, g1, g2, g3v, g4⟩, hR⟩ := hG
  obtain ⟨⟨i1, i2, i3, i4, i5⟩, i6, i7, i8, i9, i10⟩ := id hI
  refine AC.of [some (.ref c), some (.int x)] rfl (by decide) (Nat.le_of_ble_eq_true rfl) rfl ?_
  refine AF.aload_n dX8_removeFigure_0 rfl ?_
  refine AF.getfield dX8_removeFigure_1 fl_X8_10 (by assumption) rfl ?_
  refine AF.iload_n dX8_removeFigure_4 rfl ?_
  refine AF.v1 dX8_removeFigure_5 kv_X8_198 ((X7_problemOfDroppingFigure_ok hS0 x)) (by assumption) rfl rfl rfl (Nat.le_of_ble_eq_true rfl) (by decide) rfl ?_
  refine AF.callS (bc := 0) (bs := 0) (mc' := 1) (ms' := 6) dX8_removeFigure_8 kv_X8_74 (X8_refuse_ok (pDrF X.sg x) (by have := pDrF_v (σ := X.sg) (x := x); omega)) rfl rfl (Nat.le_of_ble_eq_true rfl) (by decide) rfl (fun E F' q => ?_) (fun v F' q => ?_)
  · obtain ⟨h, rfl, n, hn, rfl⟩ := q.x
    have hv := pDrF_v (σ := X.sg) (x := x)
    refine XQ.cx hC0 ?_ ?_ hn
    · rcases hv with e | e | e <;> rw [e] at h ⊢ <;> first | exact absurd rfl h | decide
    · rcases hv with e | e | e <;> rw [e] at h ⊢ <;> first | exact absurd rfl h | rfl
  · obtain ⟨hp, rfl, rfl⟩ := q.n
    have hp0 : (if pDrF X.sg x = 4 then 2 else pDrF X.sg x) = 0 := by rw [hp]; rfl
    obtain ⟨-, x1, x2⟩ := hI.rmF hp
    rw [show some (Value.int x) = some (.int (nI (cl x))) from congrArg (fun z => some (Value.int z)) x2]
    refine AF.aload_n dX8_removeFigure_11 rfl ?_
    refine AF.vw dX8_removeFigure_12 kv_X8_78 (X8_remember_ok hC0 ha) (by assumption) rfl rfl rfl (Nat.le_of_ble_eq_true rfl) (by decide) rfl (fun E F9 q => nomatch q.1) (fun v F q => ?_)
    obtain ⟨q, hC2, q2, -⟩ := q
    cases q
    clear c0 s0 s9 s10 hJ0 j0 j1 j2 hG0 g0 g1 g2 g3v g4 hE l hfg hR hC0 hS0
    have hC3 := hC2
    obtain ⟨hn, hf, ⟨c0, -⟩, -, hS, -⟩ := hC2
    have hS : SA G _ (c + 1) X.sg := hS
    have hS0 := hS
    obtain ⟨ef, es, ⟨s0, s9, s10⟩, hE, hJ, hG⟩ := hS
    have hJ0 := hJ
    obtain ⟨f, g, ⟨j0, j1, j2⟩, l, hfg⟩ := hJ
    have hG0 := hG
    obtain ⟨sc, dl, jt, op, ⟨g0, g1, g2, g3v, g4⟩, hR⟩ := hG
    refine AF.aload_n dX8_removeFigure_15 rfl ?_
    refine AF.getfield dX8_removeFigure_16 fl_X8_10 (by assumption) rfl ?_
    refine AF.iload_n dX8_removeFigure_19 rfl ?_
    refine AF.vw dX8_removeFigure_20 kv_X8_201 (X7_dropFigure_ok hS0 (by omega) hI.1 (cl x) x1) (by assumption) rfl rfl rfl (Nat.le_of_ble_eq_true rfl) (by decide) rfl (fun E F9 q => nomatch q.1) (fun v F q => ?_)
    obtain ⟨q, hN, q3⟩ := q
    cases q
    exact AF.ireturn dX8_removeFigure_23 rfl (XQ.cn hC3 q2 (hN) (q3.wide (by omega) (by omega)) hp0)
set_option maxRecDepth 100000 in
set_option maxHeartbeats 2000000 in
theorem X8_addStep_ok (hC : CX G F c bv X) (ha : gN G ≤ c) (hI : SQ X.sg B) (x y z u : Int32) : AC G mX8_addStep 11 1 6 [.ref c, .int x, .int y, .int z, .int u] F (XQ G c bv (chX X (aStp X.sg x y z u) (if pStp X.sg x y z u = 4 then 3 else pStp X.sg x y z u)) (rx [eIx, eAr, eSt] (if pStp X.sg x y z u = 4 then 3 else pStp X.sg x y z u) (.int (nI ((fg X.sg.Fg (cl x)).length + 1)))) F) := by
  have hC0 := hC
  obtain ⟨hn, hf, ⟨c0, -⟩, -, hS, -⟩ := hC
  have hS0 := hS
  obtain ⟨ef, es, ⟨s0, s9, s10⟩, hE, hJ, hG⟩ := hS
  have hJ0 := hJ
  obtain ⟨f, g, ⟨j0, j1, j2⟩, l, hfg⟩ := hJ
  have hG0 := hG
  obtain ⟨sc, dl, jt, op, ⟨g0, g1, g2, g3v, g4⟩, hR⟩ := hG
  obtain ⟨⟨i1, i2, i3, i4, i5⟩, i6, i7, i8, i9, i10⟩ := id hI
  refine AC.of [some (.ref c), some (.int x), some (.int y), some (.int z), some (.int u)] rfl (by decide) (Nat.le_of_ble_eq_true rfl) rfl ?_
  refine AF.aload_n dX8_addStep_0 rfl ?_
  refine AF.getfield dX8_addStep_1 fl_X8_10 (by assumption) rfl ?_
  refine AF.iload_n dX8_addStep_4 rfl ?_
  refine AF.iload_n dX8_addStep_5 rfl ?_
  refine AF.iload_n dX8_addStep_6 rfl ?_
  refine AF.iload dX8_addStep_7 rfl ?_
  refine AF.v1 dX8_addStep_9 kv_X8_204 ((X7_problemOfStep_ok hS0 x y z u)) (by assumption) rfl rfl rfl (Nat.le_of_ble_eq_true rfl) (by decide) rfl ?_
  refine AF.callS (bc := 0) (bs := 0) (mc' := 1) (ms' := 6) dX8_addStep_12 kv_X8_74 (X8_refuse_ok (pStp X.sg x y z u) (by have := pStp_v (σ := X.sg) (x := x) (y := y) (z := z) (u := u); omega)) rfl rfl (Nat.le_of_ble_eq_true rfl) (by decide) rfl (fun E F' q => ?_) (fun v F' q => ?_)
  · obtain ⟨h, rfl, n, hn, rfl⟩ := q.x
    have hv := pStp_v (σ := X.sg) (x := x) (y := y) (z := z) (u := u)
    refine XQ.cx hC0 ?_ ?_ hn
    · rcases hv with e | e | e | e <;> rw [e] at h ⊢ <;> first | exact absurd rfl h | decide
    · rcases hv with e | e | e | e <;> rw [e] at h ⊢ <;> first | exact absurd rfl h | rfl
  · obtain ⟨hp, rfl, rfl⟩ := q.n
    have hp0 : (if pStp X.sg x y z u = 4 then 3 else pStp X.sg x y z u) = 0 := by rw [hp]; rfl
    obtain ⟨-, ⟨x1, x2⟩, ⟨y1, y2⟩, ⟨z1, z2⟩, ⟨u1, u2⟩, x8⟩ := hI.stp hp
    rw [show some (Value.int x) = some (.int (nI (cl x))) from congrArg (fun z => some (Value.int z)) x2]
    rw [show some (Value.int y) = some (.int (nI (cl y))) from congrArg (fun z => some (Value.int z)) y2]
    rw [show some (Value.int z) = some (.int (nI (cl z))) from congrArg (fun z => some (Value.int z)) z2]
    rw [show some (Value.int u) = some (.int (nI (cl u))) from congrArg (fun z => some (Value.int z)) u2]
    refine AF.aload_n dX8_addStep_15 rfl ?_
    refine AF.vw dX8_addStep_16 kv_X8_78 (X8_remember_ok hC0 ha) (by assumption) rfl rfl rfl (Nat.le_of_ble_eq_true rfl) (by decide) rfl (fun E F9 q => nomatch q.1) (fun v F q => ?_)
    obtain ⟨q, hC2, q2, -⟩ := q
    cases q
    clear c0 s0 s9 s10 hJ0 j0 j1 j2 hG0 g0 g1 g2 g3v g4 hE l hfg hR hC0 hS0
    have hC3 := hC2
    obtain ⟨hn, hf, ⟨c0, -⟩, -, hS, -⟩ := hC2
    have hS : SA G _ (c + 1) X.sg := hS
    have hS0 := hS
    obtain ⟨ef, es, ⟨s0, s9, s10⟩, hE, hJ, hG⟩ := hS
    have hJ0 := hJ
    obtain ⟨f, g, ⟨j0, j1, j2⟩, l, hfg⟩ := hJ
    have hG0 := hG
    obtain ⟨sc, dl, jt, op, ⟨g0, g1, g2, g3v, g4⟩, hR⟩ := hG
    refine AF.aload_n dX8_addStep_19 rfl ?_
    refine AF.getfield dX8_addStep_20 fl_X8_10 (by assumption) rfl ?_
    refine AF.getfield dX8_addStep_23 fl_X8_187 (by assumption) rfl ?_
    refine AF.iload_n dX8_addStep_26 rfl ?_
    refine AF.iload_n dX8_addStep_27 rfl ?_
    refine AF.iload_n dX8_addStep_28 rfl ?_
    refine AF.iload dX8_addStep_29 rfl ?_
    refine AF.vw dX8_addStep_31 kv_X8_208 (X2_appendStep_ok hG0 (by omega) (cl x) (cl y) (cl z) (cl u) x1 x8) (by assumption) rfl rfl rfl (Nat.le_of_ble_eq_true rfl) (by decide) rfl (fun E F9 q => nomatch q.1) (fun v F q => ?_)
    obtain ⟨q, hN, q3⟩ := q
    cases q
    exact AF.ireturn dX8_addStep_34 rfl (XQ.cn hC3 q2 (hS0.fgu hN q3) (q3.wide (by omega) (by omega)) hp0)
set_option maxRecDepth 100000 in
set_option maxHeartbeats 2000000 in
theorem X8_play_ok (hC : CX G F c bv X) (ha : gN G ≤ c) (hI : SQ X.sg B) (x y : Int32) : AC G mX8_play 11 1 6 [.ref c, .int x, .int y] F (XQ G c bv (chX X (aPly X.sg x y) (if pPly X.sg x y = 4 then 3 else pPly X.sg x y)) (rx [eIx, eAr, eSt] (if pPly X.sg x y = 4 then 3 else pPly X.sg x y) (.int (nI (X.sg.bt + cl y)))) F) := by
  have hC0 := hC
  obtain ⟨hn, hf, ⟨c0, -⟩, -, hS, -⟩ := hC
  have hS0 := hS
  obtain ⟨ef, es, ⟨s0, s9, s10⟩, hE, hJ, hG⟩ := hS
  have hJ0 := hJ
  obtain ⟨f, g, ⟨j0, j1, j2⟩, l, hfg⟩ := hJ
  have hG0 := hG
  obtain ⟨sc, dl, jt, op, ⟨g0, g1, g2, g3v, g4⟩, hR⟩ := hG
  obtain ⟨⟨i1, i2, i3, i4, i5⟩, i6, i7, i8, i9, i10⟩ := id hI
  refine AC.of [some (.ref c), some (.int x), some (.int y)] rfl (by decide) (Nat.le_of_ble_eq_true rfl) rfl ?_
  refine AF.aload_n dX8_play_0 rfl ?_
  refine AF.getfield dX8_play_1 fl_X8_10 (by assumption) rfl ?_
  refine AF.iload_n dX8_play_4 rfl ?_
  refine AF.iload_n dX8_play_5 rfl ?_
  refine AF.v1 dX8_play_6 kv_X8_241 ((X7_problemOfPlaying_ok hS0 x y)) (by assumption) rfl rfl rfl (Nat.le_of_ble_eq_true rfl) (by decide) rfl ?_
  refine AF.callS (bc := 0) (bs := 0) (mc' := 1) (ms' := 6) dX8_play_9 kv_X8_74 (X8_refuse_ok (pPly X.sg x y) (by have := pPly_v (σ := X.sg) (x := x) (y := y); omega)) rfl rfl (Nat.le_of_ble_eq_true rfl) (by decide) rfl (fun E F' q => ?_) (fun v F' q => ?_)
  · obtain ⟨h, rfl, n, hn, rfl⟩ := q.x
    have hv := pPly_v (σ := X.sg) (x := x) (y := y)
    refine XQ.cx hC0 ?_ ?_ hn
    · rcases hv with e | e | e | e <;> rw [e] at h ⊢ <;> first | exact absurd rfl h | decide
    · rcases hv with e | e | e | e <;> rw [e] at h ⊢ <;> first | exact absurd rfl h | rfl
  · obtain ⟨hp, rfl, rfl⟩ := q.n
    have hp0 : (if pPly X.sg x y = 4 then 3 else pPly X.sg x y) = 0 := by rw [hp]; rfl
    obtain ⟨-, ⟨x1, x2⟩, ⟨y1, y2, y3⟩, x8⟩ := hI.ply hp
    rw [show some (Value.int x) = some (.int (nI (cl x))) from congrArg (fun z => some (Value.int z)) x2]
    rw [show some (Value.int y) = some (.int (nI (cl y))) from congrArg (fun z => some (Value.int z)) y3]
    refine AF.aload_n dX8_play_12 rfl ?_
    refine AF.vw dX8_play_13 kv_X8_78 (X8_remember_ok hC0 ha) (by assumption) rfl rfl rfl (Nat.le_of_ble_eq_true rfl) (by decide) rfl (fun E F9 q => nomatch q.1) (fun v F q => ?_)
    obtain ⟨q, hC2, q2, -⟩ := q
    cases q
    clear c0 s0 s9 s10 hJ0 j0 j1 j2 hG0 g0 g1 g2 g3v g4 hE l hfg hR hC0 hS0
    have hC3 := hC2
    obtain ⟨hn, hf, ⟨c0, -⟩, -, hS, -⟩ := hC2
    have hS : SA G _ (c + 1) X.sg := hS
    have hS0 := hS
    obtain ⟨ef, es, ⟨s0, s9, s10⟩, hE, hJ, hG⟩ := hS
    have hJ0 := hJ
    obtain ⟨f, g, ⟨j0, j1, j2⟩, l, hfg⟩ := hJ
    have hG0 := hG
    obtain ⟨sc, dl, jt, op, ⟨g0, g1, g2, g3v, g4⟩, hR⟩ := hG
    refine AF.aload_n dX8_play_16 rfl ?_
    refine AF.getfield dX8_play_17 fl_X8_10 (by assumption) rfl ?_
    refine AF.iload_n dX8_play_20 rfl ?_
    refine AF.iload_n dX8_play_21 rfl ?_
    refine AF.vw dX8_play_22 kv_X8_244 (X7_appendEntry_ok hS0 (by omega) (cl x) (cl y) x8) (by assumption) rfl rfl rfl (Nat.le_of_ble_eq_true rfl) (by decide) rfl (fun E F9 q => nomatch q.1) (fun v F q => ?_)
    obtain ⟨q, hN, q3⟩ := q
    cases q
    exact AF.ireturn dX8_play_25 rfl (XQ.cn hC3 q2 (hN) (q3.wide (by omega) (by omega)) hp0)
set_option maxRecDepth 100000 in
set_option maxHeartbeats 2000000 in
theorem X8_pass_ok (hC : CX G F c bv X) (ha : gN G ≤ c) (hI : SQ X.sg B) (hB : B + 40 ≤ 2 ^ 21) (x : Int32) : AC G mX8_pass 11 1 6 [.ref c, .int x] F (XQ G c bv (chX X (nxN X.sg (cl x)) (pPas x / 2)) (rx [eAr] (pPas x / 2) (.int (nI (nxF X.sg (cl x))))) F) := by
  have hC0 := hC
  obtain ⟨hn, hf, ⟨c0, -⟩, -, hS, -⟩ := hC
  have hS0 := hS
  obtain ⟨ef, es, ⟨s0, s9, s10⟩, hE, hJ, hG⟩ := hS
  have hJ0 := hJ
  obtain ⟨f, g, ⟨j0, j1, j2⟩, l, hfg⟩ := hJ
  have hG0 := hG
  obtain ⟨sc, dl, jt, op, ⟨g0, g1, g2, g3v, g4⟩, hR⟩ := hG
  obtain ⟨⟨i1, i2, i3, i4, i5⟩, i6, i7, i8, i9, i10⟩ := id hI
  refine AC.of [some (.ref c), some (.int x)] rfl (by decide) (Nat.le_of_ble_eq_true rfl) rfl ?_
  refine AF.aload_n dX8_pass_0 rfl ?_
  refine AF.getfield dX8_pass_1 fl_X8_10 (by assumption) rfl ?_
  refine AF.iload_n dX8_pass_4 rfl ?_
  refine AF.v1 dX8_pass_5 kv_X8_253 ((X7_problemOfPassing_ok x)) (by assumption) rfl rfl rfl (Nat.le_of_ble_eq_true rfl) (by decide) rfl ?_
  refine AF.callS (bc := 0) (bs := 0) (mc' := 1) (ms' := 6) dX8_pass_8 kv_X8_74 (X8_refuse_ok (pPas x) (by have := pPas_v (x := x); omega)) rfl rfl (Nat.le_of_ble_eq_true rfl) (by decide) rfl (fun E F' q => ?_) (fun v F' q => ?_)
  · obtain ⟨h, rfl, n, hn, rfl⟩ := q.x
    have hv := pPas_v (x := x)
    refine XQ.cx hC0 ?_ ?_ hn
    · rcases hv with e | e <;> rw [e] at h ⊢ <;> first | exact absurd rfl h | decide
    · rcases hv with e | e <;> rw [e] at h ⊢ <;> first | exact absurd rfl h | rfl
  · obtain ⟨hp, rfl, rfl⟩ := q.n
    have hp0 : pPas x / 2 = 0 := by rw [hp]
    obtain ⟨x0, x1, x2⟩ := pPas_0 hp
    rw [show some (Value.int x) = some (.int (nI (cl x))) from congrArg (fun z => some (Value.int z)) x2]
    refine AF.aload_n dX8_pass_11 rfl ?_
    refine AF.vw dX8_pass_12 kv_X8_78 (X8_remember_ok hC0 ha) (by assumption) rfl rfl rfl (Nat.le_of_ble_eq_true rfl) (by decide) rfl (fun E F9 q => nomatch q.1) (fun v F q => ?_)
    obtain ⟨q, hC2, q2, -⟩ := q
    cases q
    clear c0 s0 s9 s10 hJ0 j0 j1 j2 hG0 g0 g1 g2 g3v g4 hE l hfg hR hC0 hS0
    have hC3 := hC2
    obtain ⟨hn, hf, ⟨c0, -⟩, -, hS, -⟩ := hC2
    have hS : SA G _ (c + 1) X.sg := hS
    have hS0 := hS
    obtain ⟨ef, es, ⟨s0, s9, s10⟩, hE, hJ, hG⟩ := hS
    have hJ0 := hJ
    obtain ⟨f, g, ⟨j0, j1, j2⟩, l, hfg⟩ := hJ
    have hG0 := hG
    obtain ⟨sc, dl, jt, op, ⟨g0, g1, g2, g3v, g4⟩, hR⟩ := hG
    refine AF.aload_n dX8_pass_15 rfl ?_
    refine AF.getfield dX8_pass_16 fl_X8_10 (by assumption) rfl ?_
    refine AF.iload_n dX8_pass_19 rfl ?_
    refine AF.vw dX8_pass_20 kv_X8_256 (X7_passBeats_ok hS0 (by omega) hI.1 (cl x) (by omega)) (by assumption) rfl rfl rfl (Nat.le_of_ble_eq_true rfl) (by decide) rfl (fun E F9 q => nomatch q.1) (fun v F q => ?_)
    obtain ⟨q, hN, q3⟩ := q
    cases q
    exact AF.ireturn dX8_pass_23 rfl (XQ.cn hC3 q2 (hN) (q3.wide (by omega) (by omega)) hp0)
set_option maxRecDepth 100000 in
set_option maxHeartbeats 2000000 in
theorem X8_removeJet_ok (hC : CX G F c bv X) (ha : gN G ≤ c) (hI : SQ X.sg B) (x : Int32) : AC G mX8_removeJet 11 1 6 [.ref c, .int x] F (XQ G c bv (chX X (aRmJ X.sg x) (if hasB X.sg.J.length x = true then 0 else 1)) (rx [eIx] (if hasB X.sg.J.length x = true then 0 else 1) (.int (nI (sumN (rmC (cl x) X.sg.Fg) X.sg.Fg.length)))) F) := by
  have hC0 := hC
  obtain ⟨hn, hf, ⟨c0, -⟩, -, hS, -⟩ := hC
  have hS0 := hS
  obtain ⟨ef, es, ⟨s0, s9, s10⟩, hE, hJ, hG⟩ := hS
  have hJ0 := hJ
  obtain ⟨f, g, ⟨j0, j1, j2⟩, l, hfg⟩ := hJ
  have hG0 := hG
  obtain ⟨sc, dl, jt, op, ⟨g0, g1, g2, g3v, g4⟩, hR⟩ := hG
  obtain ⟨⟨i1, i2, i3, i4, i5⟩, i6, i7, i8, i9, i10⟩ := id hI
  refine AC.of [some (.ref c), some (.int x)] rfl (by decide) (Nat.le_of_ble_eq_true rfl) rfl ?_
  refine AF.aload_n dX8_removeJet_0 rfl ?_
  refine AF.iload_n dX8_removeJet_1 rfl ?_
  refine AF.callV (bc := 0) (bs := 0) (mc' := 1) (ms' := 6) dX8_removeJet_2 kv_X8_85 (X8_requireJet_ok hC0 x) c0 rfl rfl rfl (Nat.le_of_ble_eq_true rfl) (by decide) rfl (fun E F' q => ?_) (fun v F' q => ?_)
  · obtain ⟨h, rfl, n, hn, rfl⟩ := q.x
    exact XQ.cx hC0 (by rw [if_neg h]; decide) (by rw [if_neg h]; rfl) hn
  · obtain ⟨hp, rfl, rfl⟩ := q.n
    have hp0 : (if hasB X.sg.J.length x = true then 0 else 1) = 0 := if_pos hp
    obtain ⟨-, x1, x2⟩ := hI.rmJ hp
    rw [show some (Value.int x) = some (.int (nI (cl x))) from congrArg (fun z => some (Value.int z)) x2]
    refine AF.aload_n dX8_removeJet_5 rfl ?_
    refine AF.vw dX8_removeJet_6 kv_X8_78 (X8_remember_ok hC0 ha) (by assumption) rfl rfl rfl (Nat.le_of_ble_eq_true rfl) (by decide) rfl (fun E F9 q => nomatch q.1) (fun v F q => ?_)
    obtain ⟨q, hC2, q2, -⟩ := q
    cases q
    clear c0 s0 s9 s10 hJ0 j0 j1 j2 hG0 g0 g1 g2 g3v g4 hE l hfg hR hC0 hS0
    have hC3 := hC2
    obtain ⟨hn, hf, ⟨c0, -⟩, -, hS, -⟩ := hC2
    have hS : SA G _ (c + 1) X.sg := hS
    have hS0 := hS
    obtain ⟨ef, es, ⟨s0, s9, s10⟩, hE, hJ, hG⟩ := hS
    have hJ0 := hJ
    obtain ⟨f, g, ⟨j0, j1, j2⟩, l, hfg⟩ := hJ
    have hG0 := hG
    obtain ⟨sc, dl, jt, op, ⟨g0, g1, g2, g3v, g4⟩, hR⟩ := hG
    refine AF.aload_n dX8_removeJet_9 rfl ?_
    refine AF.getfield dX8_removeJet_10 fl_X8_10 (by assumption) rfl ?_
    refine AF.iload_n dX8_removeJet_13 rfl ?_
    refine AF.vw dX8_removeJet_14 kv_X8_89 (X7_dropJet_ok hS0 (by omega) i3 (cl x) x1) (by assumption) rfl rfl rfl (Nat.le_of_ble_eq_true rfl) (by decide) rfl (fun E F9 q => nomatch q.1) (fun v F q => ?_)
    obtain ⟨q, hN, q3⟩ := q
    cases q
    exact AF.ireturn dX8_removeJet_17 rfl (XQ.cn hC3 q2 (hN) (q3.wide (by omega) (by omega)) hp0)
set_option maxRecDepth 100000 in
set_option maxHeartbeats 2000000 in
theorem X8_removeStep_ok (hC : CX G F c bv X) (ha : gN G ≤ c) (hI : SQ X.sg B) (x y : Int32) : AC G mX8_removeStep 11 1 6 [.ref c, .int x, .int y] F (XQ G c bv (chX X (aRmS X.sg x y) (if hsB X.sg.Fg x y = true then 0 else 1)) (rx [eIx] (if hsB X.sg.Fg x y = true then 0 else 1) (.int (nI ((fg X.sg.Fg (cl x)).length - 1)))) F) := by
  have hC0 := hC
  obtain ⟨hn, hf, ⟨c0, -⟩, -, hS, -⟩ := hC
  have hS0 := hS
  obtain ⟨ef, es, ⟨s0, s9, s10⟩, hE, hJ, hG⟩ := hS
  have hJ0 := hJ
  obtain ⟨f, g, ⟨j0, j1, j2⟩, l, hfg⟩ := hJ
  have hG0 := hG
  obtain ⟨sc, dl, jt, op, ⟨g0, g1, g2, g3v, g4⟩, hR⟩ := hG
  obtain ⟨⟨i1, i2, i3, i4, i5⟩, i6, i7, i8, i9, i10⟩ := id hI
  refine AC.of [some (.ref c), some (.int x), some (.int y)] rfl (by decide) (Nat.le_of_ble_eq_true rfl) rfl ?_
  refine AF.aload_n dX8_removeStep_0 rfl ?_
  refine AF.iload_n dX8_removeStep_1 rfl ?_
  refine AF.iload_n dX8_removeStep_2 rfl ?_
  refine AF.callV (bc := 0) (bs := 0) (mc' := 1) (ms' := 6) dX8_removeStep_3 kv_X8_212 (X8_requireStep_ok hC0 x y) c0 rfl rfl rfl (Nat.le_of_ble_eq_true rfl) (by decide) rfl (fun E F' q => ?_) (fun v F' q => ?_)
  · obtain ⟨h, rfl, n, hn, rfl⟩ := q.x
    exact XQ.cx hC0 (by rw [if_neg h]; decide) (by rw [if_neg h]; rfl) hn
  · obtain ⟨hp, rfl, rfl⟩ := q.n
    have hp0 : (if hsB X.sg.Fg x y = true then 0 else 1) = 0 := if_pos hp
    obtain ⟨-, ⟨x1, x2⟩, y1, y2⟩ := hI.rmS hp
    rw [show some (Value.int x) = some (.int (nI (cl x))) from congrArg (fun z => some (Value.int z)) x2]
    rw [show some (Value.int y) = some (.int (nI (cl y))) from congrArg (fun z => some (Value.int z)) y2]
    refine AF.aload_n dX8_removeStep_6 rfl ?_
    refine AF.vw dX8_removeStep_7 kv_X8_78 (X8_remember_ok hC0 ha) (by assumption) rfl rfl rfl (Nat.le_of_ble_eq_true rfl) (by decide) rfl (fun E F9 q => nomatch q.1) (fun v F q => ?_)
    obtain ⟨q, hC2, q2, -⟩ := q
    cases q
    clear c0 s0 s9 s10 hJ0 j0 j1 j2 hG0 g0 g1 g2 g3v g4 hE l hfg hR hC0 hS0
    have hC3 := hC2
    obtain ⟨hn, hf, ⟨c0, -⟩, -, hS, -⟩ := hC2
    have hS : SA G _ (c + 1) X.sg := hS
    have hS0 := hS
    obtain ⟨ef, es, ⟨s0, s9, s10⟩, hE, hJ, hG⟩ := hS
    have hJ0 := hJ
    obtain ⟨f, g, ⟨j0, j1, j2⟩, l, hfg⟩ := hJ
    have hG0 := hG
    obtain ⟨sc, dl, jt, op, ⟨g0, g1, g2, g3v, g4⟩, hR⟩ := hG
    refine AF.aload_n dX8_removeStep_10 rfl ?_
    refine AF.getfield dX8_removeStep_11 fl_X8_10 (by assumption) rfl ?_
    refine AF.getfield dX8_removeStep_14 fl_X8_187 (by assumption) rfl ?_
    refine AF.iload_n dX8_removeStep_17 rfl ?_
    refine AF.iload_n dX8_removeStep_18 rfl ?_
    refine AF.vw dX8_removeStep_19 kv_X8_216 (X2_dropStep_ok hG0 (by omega) (cl x) (cl y) x1 y1) (by assumption) rfl rfl rfl (Nat.le_of_ble_eq_true rfl) (by decide) rfl (fun E F9 q => nomatch q.1) (fun v F q => ?_)
    obtain ⟨q, hN, q3⟩ := q
    cases q
    exact AF.ireturn dX8_removeStep_22 rfl (XQ.cn hC3 q2 (hS0.fgu hN q3) (q3.wide (by omega) (by omega)) hp0)
set_option maxRecDepth 100000 in
set_option maxHeartbeats 2000000 in
theorem X8_cancel_ok (hC : CX G F c bv X) (ha : gN G ≤ c) (hI : SQ X.sg B) (x : Int32) : AC G mX8_cancel 11 1 6 [.ref c, .int x] F (XQ G c bv (chX X (aCan X.sg x) (if hasB X.sg.E.length x = true then 0 else 1)) (rx [eIx] (if hasB X.sg.E.length x = true then 0 else 1) (.int (nI (en X.sg.E (cl x)).2))) F) := by
  have hC0 := hC
  obtain ⟨hn, hf, ⟨c0, -⟩, -, hS, -⟩ := hC
  have hS0 := hS
  obtain ⟨ef, es, ⟨s0, s9, s10⟩, hE, hJ, hG⟩ := hS
  have hJ0 := hJ
  obtain ⟨f, g, ⟨j0, j1, j2⟩, l, hfg⟩ := hJ
  have hG0 := hG
  obtain ⟨sc, dl, jt, op, ⟨g0, g1, g2, g3v, g4⟩, hR⟩ := hG
  obtain ⟨⟨i1, i2, i3, i4, i5⟩, i6, i7, i8, i9, i10⟩ := id hI
  refine AC.of [some (.ref c), some (.int x)] rfl (by decide) (Nat.le_of_ble_eq_true rfl) rfl ?_
  refine AF.aload_n dX8_cancel_0 rfl ?_
  refine AF.iload_n dX8_cancel_1 rfl ?_
  refine AF.callV (bc := 0) (bs := 0) (mc' := 1) (ms' := 6) dX8_cancel_2 kv_X8_247 (X8_requireEntry_ok hC0 x) c0 rfl rfl rfl (Nat.le_of_ble_eq_true rfl) (by decide) rfl (fun E F' q => ?_) (fun v F' q => ?_)
  · obtain ⟨h, rfl, n, hn, rfl⟩ := q.x
    exact XQ.cx hC0 (by rw [if_neg h]; decide) (by rw [if_neg h]; rfl) hn
  · obtain ⟨hp, rfl, rfl⟩ := q.n
    have hp0 : (if hasB X.sg.E.length x = true then 0 else 1) = 0 := if_pos hp
    obtain ⟨-, x1, x2⟩ := hI.can hp
    rw [show some (Value.int x) = some (.int (nI (cl x))) from congrArg (fun z => some (Value.int z)) x2]
    refine AF.aload_n dX8_cancel_5 rfl ?_
    refine AF.vw dX8_cancel_6 kv_X8_78 (X8_remember_ok hC0 ha) (by assumption) rfl rfl rfl (Nat.le_of_ble_eq_true rfl) (by decide) rfl (fun E F9 q => nomatch q.1) (fun v F q => ?_)
    obtain ⟨q, hC2, q2, -⟩ := q
    cases q
    clear c0 s0 s9 s10 hJ0 j0 j1 j2 hG0 g0 g1 g2 g3v g4 hE l hfg hR hC0 hS0
    have hC3 := hC2
    obtain ⟨hn, hf, ⟨c0, -⟩, -, hS, -⟩ := hC2
    have hS : SA G _ (c + 1) X.sg := hS
    have hS0 := hS
    obtain ⟨ef, es, ⟨s0, s9, s10⟩, hE, hJ, hG⟩ := hS
    have hJ0 := hJ
    obtain ⟨f, g, ⟨j0, j1, j2⟩, l, hfg⟩ := hJ
    have hG0 := hG
    obtain ⟨sc, dl, jt, op, ⟨g0, g1, g2, g3v, g4⟩, hR⟩ := hG
    refine AF.aload_n dX8_cancel_9 rfl ?_
    refine AF.getfield dX8_cancel_10 fl_X8_10 (by assumption) rfl ?_
    refine AF.iload_n dX8_cancel_13 rfl ?_
    refine AF.vw dX8_cancel_14 kv_X8_250 (X7_dropEntry_ok hS0 (by omega) (cl x) x1) (by assumption) rfl rfl rfl (Nat.le_of_ble_eq_true rfl) (by decide) rfl (fun E F9 q => nomatch q.1) (fun v F q => ?_)
    obtain ⟨q, hN, q3⟩ := q
    cases q
    exact AF.ireturn dX8_cancel_17 rfl (XQ.cn hC3 q2 (hN) (q3.wide (by omega) (by omega)) hp0)
set_option maxRecDepth 100000 in
set_option maxHeartbeats 2000000 in
theorem X8_trim_ok (hC : CX G F c bv X) (ha : gN G ≤ c) (hI : SQ X.sg B) : AC G mX8_trim 11 0 0 [.ref c] F (XQ G c bv (chX X (aTrm X.sg) 0) (rx [] 0 (.int (nI (trm X.sg.cap X.sg.w 100 X.sg.J).1))) F) := by
  have hC0 := hC
  obtain ⟨hn, hf, ⟨c0, -⟩, -, hS, -⟩ := hC
  have hS0 := hS
  obtain ⟨ef, es, ⟨s0, s9, s10⟩, hE, hJ, hG⟩ := hS
  have hJ0 := hJ
  obtain ⟨f, g, ⟨j0, j1, j2⟩, l, hfg⟩ := hJ
  have hG0 := hG
  obtain ⟨sc, dl, jt, op, ⟨g0, g1, g2, g3v, g4⟩, hR⟩ := hG
  obtain ⟨⟨i1, i2, i3, i4, i5⟩, i6, i7, i8, i9, i10⟩ := id hI
  have hp0 : (0 : Nat) = 0 := rfl
  refine AC.of [some (.ref c)] rfl (by decide) (Nat.le_of_ble_eq_true rfl) rfl ?_
  refine AF.aload_n dX8_trim_0 rfl ?_
  refine AF.vw dX8_trim_1 kv_X8_78 (X8_remember_ok hC0 ha) (by assumption) rfl rfl rfl (Nat.le_of_ble_eq_true rfl) (by decide) rfl (fun E F9 q => nomatch q.1) (fun v F q => ?_)
  obtain ⟨q, hC2, q2, -⟩ := q
  cases q
  clear c0 s0 s9 s10 hJ0 j0 j1 j2 hG0 g0 g1 g2 g3v g4 hE l hfg hR hC0 hS0
  have hC3 := hC2
  obtain ⟨hn, hf, ⟨c0, -⟩, -, hS, -⟩ := hC2
  have hS : SA G _ (c + 1) X.sg := hS
  have hS0 := hS
  obtain ⟨ef, es, ⟨s0, s9, s10⟩, hE, hJ, hG⟩ := hS
  have hJ0 := hJ
  obtain ⟨f, g, ⟨j0, j1, j2⟩, l, hfg⟩ := hJ
  have hG0 := hG
  obtain ⟨sc, dl, jt, op, ⟨g0, g1, g2, g3v, g4⟩, hR⟩ := hG
  refine AF.aload_n dX8_trim_4 rfl ?_
  refine AF.getfield dX8_trim_5 fl_X8_10 (by assumption) rfl ?_
  refine AF.getfield dX8_trim_8 fl_X8_64 (by assumption) rfl ?_
  refine AF.vw dX8_trim_11 kv_X8_168 (X3_closeWildJets_ok hJ0 (by omega) i1 i2) (by assumption) rfl rfl rfl (Nat.le_of_ble_eq_true rfl) (by decide) rfl (fun E F9 q => nomatch q.1) (fun v F q => ?_)
  obtain ⟨q, hN, q3⟩ := q
  cases q
  exact AF.ireturn dX8_trim_14 rfl (XQ.cn hC3 q2 (hS0.jt hN q3) (q3.wide (by omega) (by omega)) hp0)
end

