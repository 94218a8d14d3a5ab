/-! The law's calls 0 to 14: from one state known to the next. -/
abbrev mL_law : MI := (yL_law, cL_law, 9, some .boolean, [])
section
variable {G : GA} {F : AH} {b c L i B bc bs : Nat} {xs : Nat → Int32} {X : XS} {R : AR → AH → Prop}
set_option maxRecDepth 100000 in
set_option maxHeartbeats 2000000 in
theorem LC0_ok (hL : LI G c F X B) (ha : gN G ≤ c) (hs : SCR G b L xs) (hi : i + 4 < L) (hl : L ≤ 2560) (hB : B + 2500 ≤ 2 ^ 21) (l6 l7 l8 : Option Value) (next : ∀ F' X' l6 l7 l8, LI G c F' X' (B + 2500) → AF G mL_law 13 bc bs R F' 2880 [some (.ref b), some (.ref c), some (.ref (c + 131)), some (.ref (c + 140)), some (.ref (c + 141)), some (.int (nI i)), l6, l7, l8] []) : AF G mL_law 13 (bc + 50) (bs + 6964) R F 296 [some (.ref b), some (.ref c), some (.ref (c + 131)), some (.ref (c + 140)), some (.ref (c + 141)), some (.int (nI i)), l6, l7, l8] [] := by
  obtain ⟨bv, th, f, g, hC, hM, ⟨ho, hod⟩, hbv, hz, hX⟩ := hL
  obtain ⟨x, ex⟩ : ∃ z, z = xs (i + 1) := ⟨_, rfl⟩
  have hpr : (pAdd X.sg.J x - 1) ≤ 3 := by have := pAdd_v (J := X.sg.J) (x := x); omega
  obtain ⟨hn, hf, ⟨c0, -⟩, -⟩ := id hC
  refine AF.less (d' := 13) (bc' := bc + 1) (bs' := bs + 6) ?_ (Nat.le_refl _) (by omega) (by omega)
  refine AF.aload_n dL_law_296 rfl ?_
  refine AF.aload_n dL_law_297 rfl ?_
  refine AF.iload dL_law_298 rfl ?_
  refine AF.iconst (nI 1) dL_law_300 (by decide) ?_
  refine AF.iadd dL_law_301 ?_
  rw [nI_add]
  refine AF.ialoadT (v := .int x) (i + 1) dL_law_302 hs rfl (by omega) (by omega) (congrArg Value.int ex.symm) ?_
  refine AF.aload_n dL_law_303 rfl ?_
  refine AF.callSX (bc := bc) (bs := bs) (mc' := 1) (ms' := 6) dL_law_304 kx_L_157 (L_addJet_ok (B := B) hC x ha hX.1 ho (by omega) (by omega) (by omega) (by omega)) rfl rfl (Nat.le_of_ble_eq_true rfl) (by decide) rfl (fun E F9 q => nomatch q.1) (fun v F2 q => ?_)
  obtain ⟨q, bv2, hC2, ⟨x1, x2, x3⟩, f2, hr2, hz2⟩ := q
  cases q
  have hbv2 : bv2 = c + 42 ∨ c + 142 ≤ bv2 := by omega
  have hM2 := hM.kept (F' := F2) (fun q a b => x3 q (by omega) (by omega) (by omega) (by omega))
  have ho2 := hr2
  have hod2 := (x3 (c + 141) (by omega) (by omega) (by omega) (by omega)).trans hod
  obtain ⟨g2, f9, A2, ⟨m0, -⟩, -⟩ := id hM2
  refine AF.istore dL_law_307 (by decide) ?_
  refine AF.aload_n dL_law_309 rfl ?_
  refine AF.aload_n dL_law_310 rfl ?_
  refine AF.iload dL_law_311 rfl ?_
  refine AF.iconst (nI 1) dL_law_313 (by decide) ?_
  refine AF.iadd dL_law_314 ?_
  rw [nI_add]
  refine AF.ialoadT (v := .int x) (i + 1) dL_law_315 hs rfl (by omega) (by omega) (congrArg Value.int ex.symm) ?_
  refine AF.vw dL_law_316 kv_L_162 (X9_addJet_ok hM2 (by omega) hX.1 x) (by assumption) rfl rfl rfl (Nat.le_of_ble_eq_true rfl) (by decide) rfl (fun E F9 q => nomatch q.1) (fun v F q => ?_)
  obtain ⟨q, hM3, q3⟩ := q
  cases q
  have hC3 := hC2.kept (fun q a b => q3.2 q (by omega)) (q3.2 bv2 (by omega)) (Nat.le_of_eq q3.1.symm)
  have ho3 := (q3.2 (c + 140) (by omega)).trans ho2
  have hod3 := (q3.2 (c + 141) (by omega)).trans hod2
  clear m0
  obtain ⟨g3, f9, A3, ⟨m0, -⟩, -⟩ := id hM3
  have hLI : LI G c F (chX X (aJet X.sg x) (pAdd X.sg.J x - 1)) (B + 2500) := ⟨bv2, _, f2, g, hC3, hM3, ⟨ho3, hod3⟩, hbv2, by have := q3.1; omega, XI.ch hX (fun q => ((hX.1.jet (by have := pAdd_v (J := X.sg.J) (x := x); omega)).1).mono (by omega) (by omega)) (by omega) hB⟩
  refine AF.istore dL_law_319 (by decide) ?_
  refine AF.aload_n dL_law_321 rfl ?_
  refine AF.v1 dL_law_322 kv_L_163 ((X9_thrown_ok hM3)) (by assumption) rfl rfl rfl (Nat.le_of_ble_eq_true rfl) (by decide) rfl ?_
  refine AF.iload dL_law_325 rfl ?_
  refine AF.icmp_eq 332 dL_law_327 (by decide) (fun h1 => ?_) (fun h1 => ?_)
  · refine AF.iload dL_law_332 rfl ?_
    refine AF.if_ne 349 dL_law_334 (by decide) (fun h2 => ?_) (fun h2 => ?_)
    · refine AF.goto 2880 dL_law_349 (by decide) ?_
      exact next F _ _ _ _ hLI
    · have h2 : nI (pAdd X.sg.J x - 1) = nI 0 := h2
      rw [nI_eq (by omega) (by omega)] at h2
      refine AF.aload_n dL_law_337 rfl ?_
      refine AF.iconst (nI 0) dL_law_338 (by decide) ?_
      refine AF.laload 0 dL_law_339 ho3 rfl (by omega) (by decide) ?_
      rw [hz2 h2]
      refine AF.iload dL_law_340 rfl ?_
      refine AF.i2l dL_law_342 ?_
      rw [if_pos h2]
      refine AF.lcmp dL_law_343 ?_
      rw [lcmp_self]
      refine AF.if_eq 349 dL_law_344 (by decide) (fun h3 => ?_) (fun h3 => ?_)
      · refine AF.goto 2880 dL_law_349 (by decide) ?_
        exact next F _ _ _ _ hLI
      · exact absurd rfl h3
  · exact absurd rfl h1
set_option maxRecDepth 100000 in
set_option maxHeartbeats 2000000 in
theorem LC1_ok (hL : LI G c F X B) (ha : gN G ≤ c) (hs : SCR G b L xs) (hi : i + 4 < L) (hl : L ≤ 2560) (hB : B + 2500 ≤ 2 ^ 21) (l6 l7 l8 : Option Value) (next : ∀ F' X' l6 l7 l8, LI G c F' X' (B + 2500) → AF G mL_law 13 bc bs R F' 2880 [some (.ref b), some (.ref c), some (.ref (c + 131)), some (.ref (c + 140)), some (.ref (c + 141)), some (.int (nI i)), l6, l7, l8] []) : AF G mL_law 13 (bc + 50) (bs + 6964) R F 352 [some (.ref b), some (.ref c), some (.ref (c + 131)), some (.ref (c + 140)), some (.ref (c + 141)), some (.int (nI i)), l6, l7, l8] [] := by
  obtain ⟨bv, th, f, g, hC, hM, ⟨ho, hod⟩, hbv, hz, hX⟩ := hL
  obtain ⟨x, ex⟩ : ∃ z, z = xs (i + 1) := ⟨_, rfl⟩
  have hpr : (if hasB X.sg.J.length x = true then 0 else 1) ≤ 3 := by split <;> omega
  obtain ⟨hn, hf, ⟨c0, -⟩, -⟩ := id hC
  refine AF.less (d' := 13) (bc' := bc + 1) (bs' := bs + 6) ?_ (Nat.le_refl _) (by omega) (by omega)
  refine AF.aload_n dL_law_352 rfl ?_
  refine AF.aload_n dL_law_353 rfl ?_
  refine AF.iload dL_law_354 rfl ?_
  refine AF.iconst (nI 1) dL_law_356 (by decide) ?_
  refine AF.iadd dL_law_357 ?_
  rw [nI_add]
  refine AF.ialoadT (v := .int x) (i + 1) dL_law_358 hs rfl (by omega) (by omega) (congrArg Value.int ex.symm) ?_
  refine AF.aload_n dL_law_359 rfl ?_
  refine AF.callSX (bc := bc) (bs := bs) (mc' := 1) (ms' := 6) dL_law_360 kx_L_166 (L_removeJet_ok (B := B) hC x ha hX.1 ho (by omega) (by omega) (by omega) (by omega)) rfl rfl (Nat.le_of_ble_eq_true rfl) (by decide) rfl (fun E F9 q => nomatch q.1) (fun v F2 q => ?_)
  obtain ⟨q, bv2, hC2, ⟨x1, x2, x3⟩, f2, hr2, hz2⟩ := q
  cases q
  have hbv2 : bv2 = c + 42 ∨ c + 142 ≤ bv2 := by omega
  have hM2 := hM.kept (F' := F2) (fun q a b => x3 q (by omega) (by omega) (by omega) (by omega))
  have ho2 := hr2
  have hod2 := (x3 (c + 141) (by omega) (by omega) (by omega) (by omega)).trans hod
  obtain ⟨g2, f9, A2, ⟨m0, -⟩, -⟩ := id hM2
  refine AF.istore dL_law_363 (by decide) ?_
  refine AF.aload_n dL_law_365 rfl ?_
  refine AF.aload_n dL_law_366 rfl ?_
  refine AF.iload dL_law_367 rfl ?_
  refine AF.iconst (nI 1) dL_law_369 (by decide) ?_
  refine AF.iadd dL_law_370 ?_
  rw [nI_add]
  refine AF.ialoadT (v := .int x) (i + 1) dL_law_371 hs rfl (by omega) (by omega) (congrArg Value.int ex.symm) ?_
  refine AF.vw dL_law_372 kv_L_168 (X9_removeJet_ok hM2 (by omega) hX.1 x) (by assumption) rfl rfl rfl (Nat.le_of_ble_eq_true rfl) (by decide) rfl (fun E F9 q => nomatch q.1) (fun v F q => ?_)
  obtain ⟨q, hM3, q3⟩ := q
  cases q
  have hC3 := hC2.kept (fun q a b => q3.2 q (by omega)) (q3.2 bv2 (by omega)) (Nat.le_of_eq q3.1.symm)
  have ho3 := (q3.2 (c + 140) (by omega)).trans ho2
  have hod3 := (q3.2 (c + 141) (by omega)).trans hod2
  clear m0
  obtain ⟨g3, f9, A3, ⟨m0, -⟩, -⟩ := id hM3
  have hLI : LI G c F (chX X (aRmJ X.sg x) (if hasB X.sg.J.length x = true then 0 else 1)) (B + 2500) := ⟨bv2, _, f2, g, hC3, hM3, ⟨ho3, hod3⟩, hbv2, by have := q3.1; omega, XI.ch hX (fun q => ((hX.1.rmJ (Decidable.byContradiction (fun z => by rw [if_neg z] at q; cases q))).1).mono (by omega) (by omega)) (by omega) hB⟩
  refine AF.istore dL_law_375 (by decide) ?_
  refine AF.aload_n dL_law_377 rfl ?_
  refine AF.v1 dL_law_378 kv_L_163 ((X9_thrown_ok hM3)) (by assumption) rfl rfl rfl (Nat.le_of_ble_eq_true rfl) (by decide) rfl ?_
  refine AF.iload dL_law_381 rfl ?_
  refine AF.icmp_eq 388 dL_law_383 (by decide) (fun h1 => ?_) (fun h1 => ?_)
  · refine AF.iload dL_law_388 rfl ?_
    refine AF.if_ne 405 dL_law_390 (by decide) (fun h2 => ?_) (fun h2 => ?_)
    · refine AF.goto 2880 dL_law_405 (by decide) ?_
      exact next F _ _ _ _ hLI
    · have h2 : nI (if hasB X.sg.J.length x = true then 0 else 1) = nI 0 := h2
      rw [nI_eq (by omega) (by omega)] at h2
      refine AF.aload_n dL_law_393 rfl ?_
      refine AF.iconst (nI 0) dL_law_394 (by decide) ?_
      refine AF.laload 0 dL_law_395 ho3 rfl (by omega) (by decide) ?_
      rw [hz2 h2]
      refine AF.iload dL_law_396 rfl ?_
      refine AF.i2l dL_law_398 ?_
      rw [if_pos h2]
      refine AF.lcmp dL_law_399 ?_
      rw [lcmp_self]
      refine AF.if_eq 405 dL_law_400 (by decide) (fun h3 => ?_) (fun h3 => ?_)
      · refine AF.goto 2880 dL_law_405 (by decide) ?_
        exact next F _ _ _ _ hLI
      · exact absurd rfl h3
  · exact absurd rfl h1
set_option maxRecDepth 100000 in
set_option maxHeartbeats 2000000 in
theorem LC2_ok (hL : LI G c F X B) (ha : gN G ≤ c) (hs : SCR G b L xs) (hi : i + 4 < L) (hl : L ≤ 2560) (hB : B + 2500 ≤ 2 ^ 21) (l6 l7 l8 : Option Value) (next : ∀ F' X' l6 l7 l8, LI G c F' X' (B + 2500) → AF G mL_law 13 bc bs R F' 2880 [some (.ref b), some (.ref c), some (.ref (c + 131)), some (.ref (c + 140)), some (.ref (c + 141)), some (.int (nI i)), l6, l7, l8] []) : AF G mL_law 13 (bc + 50) (bs + 6964) R F 408 [some (.ref b), some (.ref c), some (.ref (c + 131)), some (.ref (c + 140)), some (.ref (c + 141)), some (.int (nI i)), l6, l7, l8] [] := by
  obtain ⟨bv, th, f, g, hC, hM, ⟨ho, hod⟩, hbv, hz, hX⟩ := hL
  obtain ⟨x, ex⟩ : ∃ z, z = xs (i + 1) := ⟨_, rfl⟩
  obtain ⟨y, ey⟩ : ∃ z, z = xs (i + 2) := ⟨_, rfl⟩
  have hpr : (pOpn X.sg.J.length x y) ≤ 3 := by have := pOpn_v (n := X.sg.J.length) (x := x) (y := y); omega
  obtain ⟨hn, hf, ⟨c0, -⟩, -⟩ := id hC
  refine AF.less (d' := 13) (bc' := bc + 1) (bs' := bs + 6) ?_ (Nat.le_refl _) (by omega) (by omega)
  refine AF.aload_n dL_law_408 rfl ?_
  refine AF.aload_n dL_law_409 rfl ?_
  refine AF.iload dL_law_410 rfl ?_
  refine AF.iconst (nI 1) dL_law_412 (by decide) ?_
  refine AF.iadd dL_law_413 ?_
  rw [nI_add]
  refine AF.ialoadT (v := .int x) (i + 1) dL_law_414 hs rfl (by omega) (by omega) (congrArg Value.int ex.symm) ?_
  refine AF.aload_n dL_law_415 rfl ?_
  refine AF.iload dL_law_416 rfl ?_
  refine AF.iconst (nI 2) dL_law_418 (by decide) ?_
  refine AF.iadd dL_law_419 ?_
  rw [nI_add]
  refine AF.ialoadT (v := .int y) (i + 2) dL_law_420 hs rfl (by omega) (by omega) (congrArg Value.int ey.symm) ?_
  refine AF.aload_n dL_law_421 rfl ?_
  refine AF.callSX (bc := bc) (bs := bs) (mc' := 1) (ms' := 6) dL_law_422 kx_L_169 (L_setOpening_ok (B := B) hC x y ha hX.1 ho (by omega) (by omega) (by omega) (by omega)) rfl rfl (Nat.le_of_ble_eq_true rfl) (by decide) rfl (fun E F9 q => nomatch q.1) (fun v F2 q => ?_)
  obtain ⟨q, bv2, hC2, ⟨x1, x2, x3⟩, f2, hr2, hz2⟩ := q
  cases q
  have hbv2 : bv2 = c + 42 ∨ c + 142 ≤ bv2 := by omega
  have hM2 := hM.kept (F' := F2) (fun q a b => x3 q (by omega) (by omega) (by omega) (by omega))
  have ho2 := hr2
  have hod2 := (x3 (c + 141) (by omega) (by omega) (by omega) (by omega)).trans hod
  obtain ⟨g2, f9, A2, ⟨m0, -⟩, -⟩ := id hM2
  refine AF.istore dL_law_425 (by decide) ?_
  refine AF.aload_n dL_law_427 rfl ?_
  refine AF.aload_n dL_law_428 rfl ?_
  refine AF.iload dL_law_429 rfl ?_
  refine AF.iconst (nI 1) dL_law_431 (by decide) ?_
  refine AF.iadd dL_law_432 ?_
  rw [nI_add]
  refine AF.ialoadT (v := .int x) (i + 1) dL_law_433 hs rfl (by omega) (by omega) (congrArg Value.int ex.symm) ?_
  refine AF.aload_n dL_law_434 rfl ?_
  refine AF.iload dL_law_435 rfl ?_
  refine AF.iconst (nI 2) dL_law_437 (by decide) ?_
  refine AF.iadd dL_law_438 ?_
  rw [nI_add]
  refine AF.ialoadT (v := .int y) (i + 2) dL_law_439 hs rfl (by omega) (by omega) (congrArg Value.int ey.symm) ?_
  refine AF.vw dL_law_440 kv_L_172 (X9_setOpening_ok hM2 (by omega) x y) (by assumption) rfl rfl rfl (Nat.le_of_ble_eq_true rfl) (by decide) rfl (fun E F9 q => nomatch q.1) (fun v F q => ?_)
  obtain ⟨q, hM3, q3⟩ := q
  cases q
  have hC3 := hC2.kept (fun q a b => q3.2 q (by omega)) (q3.2 bv2 (by omega)) (Nat.le_of_eq q3.1.symm)
  have ho3 := (q3.2 (c + 140) (by omega)).trans ho2
  have hod3 := (q3.2 (c + 141) (by omega)).trans hod2
  clear m0
  obtain ⟨g3, f9, A3, ⟨m0, -⟩, -⟩ := id hM3
  have hLI : LI G c F (chX X (aOpn X.sg x y) (pOpn X.sg.J.length x y)) (B + 2500) := ⟨bv2, _, f2, g, hC3, hM3, ⟨ho3, hod3⟩, hbv2, by have := q3.1; omega, XI.ch hX (fun q => ((hX.1.opn q).1).mono (by omega) (by omega)) (by omega) hB⟩
  refine AF.istore dL_law_443 (by decide) ?_
  refine AF.aload_n dL_law_445 rfl ?_
  refine AF.v1 dL_law_446 kv_L_163 ((X9_thrown_ok hM3)) (by assumption) rfl rfl rfl (Nat.le_of_ble_eq_true rfl) (by decide) rfl ?_
  refine AF.iload dL_law_449 rfl ?_
  refine AF.icmp_eq 456 dL_law_451 (by decide) (fun h1 => ?_) (fun h1 => ?_)
  · refine AF.iload dL_law_456 rfl ?_
    refine AF.if_ne 473 dL_law_458 (by decide) (fun h2 => ?_) (fun h2 => ?_)
    · refine AF.goto 2880 dL_law_473 (by decide) ?_
      exact next F _ _ _ _ hLI
    · have h2 : nI (pOpn X.sg.J.length x y) = nI 0 := h2
      rw [nI_eq (by omega) (by omega)] at h2
      refine AF.aload_n dL_law_461 rfl ?_
      refine AF.iconst (nI 0) dL_law_462 (by decide) ?_
      refine AF.laload 0 dL_law_463 ho3 rfl (by omega) (by decide) ?_
      rw [hz2 h2]
      refine AF.iload dL_law_464 rfl ?_
      refine AF.i2l dL_law_466 ?_
      rw [if_pos h2]
      refine AF.lcmp dL_law_467 ?_
      rw [lcmp_self]
      refine AF.if_eq 473 dL_law_468 (by decide) (fun h3 => ?_) (fun h3 => ?_)
      · refine AF.goto 2880 dL_law_473 (by decide) ?_
        exact next F _ _ _ _ hLI
      · exact absurd rfl h3
  · exact absurd rfl h1
set_option maxRecDepth 100000 in
set_option maxHeartbeats 2000000 in
theorem LC3_ok (hL : LI G c F X B) (ha : gN G ≤ c) (hs : SCR G b L xs) (hi : i + 4 < L) (hl : L ≤ 2560) (hB : B + 2500 ≤ 2 ^ 21) (l6 l7 l8 : Option Value) (next : ∀ F' X' l6 l7 l8, LI G c F' X' (B + 2500) → AF G mL_law 13 bc bs R F' 2880 [some (.ref b), some (.ref c), some (.ref (c + 131)), some (.ref (c + 140)), some (.ref (c + 141)), some (.int (nI i)), l6, l7, l8] []) : AF G mL_law 13 (bc + 50) (bs + 6964) R F 476 [some (.ref b), some (.ref c), some (.ref (c + 131)), some (.ref (c + 140)), some (.ref (c + 141)), some (.int (nI i)), l6, l7, l8] [] := by
  obtain ⟨bv, th, f, g, hC, hM, ⟨ho, hod⟩, hbv, hz, hX⟩ := hL
  obtain ⟨hn, hf, ⟨c0, -⟩, -⟩ := id hC
  refine AF.less (d' := 13) (bc' := bc) (bs' := bs) ?_ (Nat.le_refl _) (by omega) (by omega)
  refine AF.aload_n dL_law_476 rfl ?_
  refine AF.vw dL_law_477 kv_L_173 (X8_jetCount_ok hC) c0 rfl rfl rfl (Nat.le_of_ble_eq_true rfl) (by decide) rfl (fun E F9 q => absurd rfl (rx_x q.1).1) (fun v F2 q => ?_)
  obtain ⟨q, bv2, hC2, x1, x2, x3⟩ := q
  obtain ⟨-, q⟩ := rx_n q
  cases q
  have hbv2 : bv2 = c + 42 ∨ c + 142 ≤ bv2 := by omega
  have hM2 := hM.kept (F' := F2) (fun q a b => x3 q (by omega) (by omega) (by omega))
  have ho2 := (x3 (c + 140) (by omega) (by omega) (by omega)).trans ho
  have hod2 := (x3 (c + 141) (by omega) (by omega) (by omega)).trans hod
  obtain ⟨g2, f9, A2, ⟨m0, -⟩, -⟩ := id hM2
  refine AF.aload_n dL_law_480 rfl ?_
  refine AF.vw dL_law_481 kv_L_176 (X9_jetCount_ok hM2 (by omega)) (by assumption) rfl rfl rfl (Nat.le_of_ble_eq_true rfl) (by decide) rfl (fun E F9 q => nomatch q.1) (fun v F q => ?_)
  obtain ⟨q, hM3, q3⟩ := q
  cases q
  have hC3 := hC2.kept (fun q a b => q3.2 q (by omega)) (q3.2 bv2 (by omega)) (Nat.le_of_eq q3.1.symm)
  have ho3 := (q3.2 (c + 140) (by omega)).trans ho2
  have hod3 := (q3.2 (c + 141) (by omega)).trans hod2
  have hLI : LI G c F _ (B + 2500) := ⟨bv2, _, f, g, hC3, hM3, ⟨ho3, hod3⟩, hbv2, by have := q3.1; omega, hX.mono (by omega) hB⟩
  refine AF.icmp_eq 2880 dL_law_484 (by decide) (fun h1 => ?_) (fun h1 => ?_)
  · exact next F _ _ _ _ hLI
  · exact absurd rfl h1
set_option maxRecDepth 100000 in
set_option maxHeartbeats 2000000 in
theorem LC4_ok (hL : LI G c F X B) (ha : gN G ≤ c) (hs : SCR G b L xs) (hi : i + 4 < L) (hl : L ≤ 2560) (hB : B + 2500 ≤ 2 ^ 21) (l6 l7 l8 : Option Value) (next : ∀ F' X' l6 l7 l8, LI G c F' X' (B + 2500) → AF G mL_law 13 bc bs R F' 2880 [some (.ref b), some (.ref c), some (.ref (c + 131)), some (.ref (c + 140)), some (.ref (c + 141)), some (.int (nI i)), l6, l7, l8] []) : AF G mL_law 13 (bc + 50) (bs + 6964) R F 489 [some (.ref b), some (.ref c), some (.ref (c + 131)), some (.ref (c + 140)), some (.ref (c + 141)), some (.int (nI i)), l6, l7, l8] [] := by
  obtain ⟨bv, th, f, g, hC, hM, ⟨ho, hod⟩, hbv, hz, hX⟩ := hL
  obtain ⟨x, ex⟩ : ∃ z, z = xs (i + 1) := ⟨_, rfl⟩
  have hpr : (if hasB X.sg.J.length x = true then 0 else 1) ≤ 3 := by split <;> omega
  obtain ⟨hn, hf, ⟨c0, -⟩, -⟩ := id hC
  refine AF.less (d' := 13) (bc' := bc + 1) (bs' := bs + 6) ?_ (Nat.le_refl _) (by omega) (by omega)
  refine AF.aload_n dL_law_489 rfl ?_
  refine AF.aload_n dL_law_490 rfl ?_
  refine AF.iload dL_law_491 rfl ?_
  refine AF.iconst (nI 1) dL_law_493 (by decide) ?_
  refine AF.iadd dL_law_494 ?_
  rw [nI_add]
  refine AF.ialoadT (v := .int x) (i + 1) dL_law_495 hs rfl (by omega) (by omega) (congrArg Value.int ex.symm) ?_
  refine AF.aload_n dL_law_496 rfl ?_
  refine AF.callSX (bc := bc) (bs := bs) (mc' := 1) (ms' := 6) dL_law_497 kx_L_177 (L_position_ok (B := B) hC x ho (by omega) (by omega) (by omega) (by omega)) rfl rfl (Nat.le_of_ble_eq_true rfl) (by decide) rfl (fun E F9 q => nomatch q.1) (fun v F2 q => ?_)
  obtain ⟨q, bv2, hC2, ⟨x1, x2, x3⟩, f2, hr2, hz2⟩ := q
  cases q
  have hbv2 : bv2 = c + 42 ∨ c + 142 ≤ bv2 := by omega
  have hM2 := hM.kept (F' := F2) (fun q a b => x3 q (by omega) (by omega) (by omega) (by omega))
  have ho2 := hr2
  have hod2 := (x3 (c + 141) (by omega) (by omega) (by omega) (by omega)).trans hod
  obtain ⟨g2, f9, A2, ⟨m0, -⟩, -⟩ := id hM2
  refine AF.istore dL_law_500 (by decide) ?_
  refine AF.aload_n dL_law_502 rfl ?_
  refine AF.aload_n dL_law_503 rfl ?_
  refine AF.iload dL_law_504 rfl ?_
  refine AF.iconst (nI 1) dL_law_506 (by decide) ?_
  refine AF.iadd dL_law_507 ?_
  rw [nI_add]
  refine AF.ialoadT (v := .int x) (i + 1) dL_law_508 hs rfl (by omega) (by omega) (congrArg Value.int ex.symm) ?_
  refine AF.vw dL_law_509 kv_L_179 (X9_position_ok hM2 (by omega) x) (by assumption) rfl rfl rfl (Nat.le_of_ble_eq_true rfl) (by decide) rfl (fun E F9 q => nomatch q.1) (fun v F q => ?_)
  obtain ⟨q, hM3, q3⟩ := q
  cases q
  have hC3 := hC2.kept (fun q a b => q3.2 q (by omega)) (q3.2 bv2 (by omega)) (Nat.le_of_eq q3.1.symm)
  have ho3 := (q3.2 (c + 140) (by omega)).trans ho2
  have hod3 := (q3.2 (c + 141) (by omega)).trans hod2
  clear m0
  obtain ⟨g3, f9, A3, ⟨m0, -⟩, -⟩ := id hM3
  have hLI : LI G c F X (B + 2500) := ⟨bv2, _, f2, g, hC3, hM3, ⟨ho3, hod3⟩, hbv2, by have := q3.1; omega, hX.mono (by omega) hB⟩
  refine AF.istore dL_law_512 (by decide) ?_
  refine AF.aload_n dL_law_514 rfl ?_
  refine AF.v1 dL_law_515 kv_L_163 ((X9_thrown_ok hM3)) (by assumption) rfl rfl rfl (Nat.le_of_ble_eq_true rfl) (by decide) rfl ?_
  refine AF.iload dL_law_518 rfl ?_
  refine AF.icmp_eq 525 dL_law_520 (by decide) (fun h1 => ?_) (fun h1 => ?_)
  · refine AF.iload dL_law_525 rfl ?_
    refine AF.if_ne 542 dL_law_527 (by decide) (fun h2 => ?_) (fun h2 => ?_)
    · refine AF.goto 2880 dL_law_542 (by decide) ?_
      exact next F _ _ _ _ hLI
    · have h2 : nI (if hasB X.sg.J.length x = true then 0 else 1) = nI 0 := h2
      rw [nI_eq (by omega) (by omega)] at h2
      refine AF.aload_n dL_law_530 rfl ?_
      refine AF.iconst (nI 0) dL_law_531 (by decide) ?_
      refine AF.laload 0 dL_law_532 ho3 rfl (by omega) (by decide) ?_
      rw [hz2 h2]
      refine AF.iload dL_law_533 rfl ?_
      refine AF.i2l dL_law_535 ?_
      rw [if_pos h2]
      refine AF.lcmp dL_law_536 ?_
      rw [lcmp_self]
      refine AF.if_eq 542 dL_law_537 (by decide) (fun h3 => ?_) (fun h3 => ?_)
      · refine AF.goto 2880 dL_law_542 (by decide) ?_
        exact next F _ _ _ _ hLI
      · exact absurd rfl h3
  · exact absurd rfl h1
set_option maxRecDepth 100000 in
set_option maxHeartbeats 2000000 in
theorem LC5_ok (hL : LI G c F X B) (ha : gN G ≤ c) (hs : SCR G b L xs) (hi : i + 4 < L) (hl : L ≤ 2560) (hB : B + 2500 ≤ 2 ^ 21) (l6 l7 l8 : Option Value) (next : ∀ F' X' l6 l7 l8, LI G c F' X' (B + 2500) → AF G mL_law 13 bc bs R F' 2880 [some (.ref b), some (.ref c), some (.ref (c + 131)), some (.ref (c + 140)), some (.ref (c + 141)), some (.int (nI i)), l6, l7, l8] []) : AF G mL_law 13 (bc + 50) (bs + 6964) R F 545 [some (.ref b), some (.ref c), some (.ref (c + 131)), some (.ref (c + 140)), some (.ref (c + 141)), some (.int (nI i)), l6, l7, l8] [] := by
  obtain ⟨bv, th, f, g, hC, hM, ⟨ho, hod⟩, hbv, hz, hX⟩ := hL
  obtain ⟨x, ex⟩ : ∃ z, z = xs (i + 1) := ⟨_, rfl⟩
  have hpr : (if hasB X.sg.J.length x = true then 0 else 1) ≤ 3 := by split <;> omega
  obtain ⟨hn, hf, ⟨c0, -⟩, -⟩ := id hC
  refine AF.less (d' := 13) (bc' := bc + 1) (bs' := bs + 6) ?_ (Nat.le_refl _) (by omega) (by omega)
  refine AF.aload_n dL_law_545 rfl ?_
  refine AF.aload_n dL_law_546 rfl ?_
  refine AF.iload dL_law_547 rfl ?_
  refine AF.iconst (nI 1) dL_law_549 (by decide) ?_
  refine AF.iadd dL_law_550 ?_
  rw [nI_add]
  refine AF.ialoadT (v := .int x) (i + 1) dL_law_551 hs rfl (by omega) (by omega) (congrArg Value.int ex.symm) ?_
  refine AF.aload_n dL_law_552 rfl ?_
  refine AF.callSX (bc := bc) (bs := bs) (mc' := 1) (ms' := 6) dL_law_553 kx_L_180 (L_opening_ok (B := B) hC x ho (by omega) (by omega) (by omega) (by omega)) rfl rfl (Nat.le_of_ble_eq_true rfl) (by decide) rfl (fun E F9 q => nomatch q.1) (fun v F2 q => ?_)
  obtain ⟨q, bv2, hC2, ⟨x1, x2, x3⟩, f2, hr2, hz2⟩ := q
  cases q
  have hbv2 : bv2 = c + 42 ∨ c + 142 ≤ bv2 := by omega
  have hM2 := hM.kept (F' := F2) (fun q a b => x3 q (by omega) (by omega) (by omega) (by omega))
  have ho2 := hr2
  have hod2 := (x3 (c + 141) (by omega) (by omega) (by omega) (by omega)).trans hod
  obtain ⟨g2, f9, A2, ⟨m0, -⟩, -⟩ := id hM2
  refine AF.istore dL_law_556 (by decide) ?_
  refine AF.aload_n dL_law_558 rfl ?_
  refine AF.aload_n dL_law_559 rfl ?_
  refine AF.iload dL_law_560 rfl ?_
  refine AF.iconst (nI 1) dL_law_562 (by decide) ?_
  refine AF.iadd dL_law_563 ?_
  rw [nI_add]
  refine AF.ialoadT (v := .int x) (i + 1) dL_law_564 hs rfl (by omega) (by omega) (congrArg Value.int ex.symm) ?_
  refine AF.vw dL_law_565 kv_L_182 (X9_opening_ok hM2 (by omega) x) (by assumption) rfl rfl rfl (Nat.le_of_ble_eq_true rfl) (by decide) rfl (fun E F9 q => nomatch q.1) (fun v F q => ?_)
  obtain ⟨q, hM3, q3⟩ := q
  cases q
  have hC3 := hC2.kept (fun q a b => q3.2 q (by omega)) (q3.2 bv2 (by omega)) (Nat.le_of_eq q3.1.symm)
  have ho3 := (q3.2 (c + 140) (by omega)).trans ho2
  have hod3 := (q3.2 (c + 141) (by omega)).trans hod2
  clear m0
  obtain ⟨g3, f9, A3, ⟨m0, -⟩, -⟩ := id hM3
  have hLI : LI G c F X (B + 2500) := ⟨bv2, _, f2, g, hC3, hM3, ⟨ho3, hod3⟩, hbv2, by have := q3.1; omega, hX.mono (by omega) hB⟩
  refine AF.istore dL_law_568 (by decide) ?_
  refine AF.aload_n dL_law_570 rfl ?_
  refine AF.v1 dL_law_571 kv_L_163 ((X9_thrown_ok hM3)) (by assumption) rfl rfl rfl (Nat.le_of_ble_eq_true rfl) (by decide) rfl ?_
  refine AF.iload dL_law_574 rfl ?_
  refine AF.icmp_eq 581 dL_law_576 (by decide) (fun h1 => ?_) (fun h1 => ?_)
  · refine AF.iload dL_law_581 rfl ?_
    refine AF.if_ne 598 dL_law_583 (by decide) (fun h2 => ?_) (fun h2 => ?_)
    · refine AF.goto 2880 dL_law_598 (by decide) ?_
      exact next F _ _ _ _ hLI
    · have h2 : nI (if hasB X.sg.J.length x = true then 0 else 1) = nI 0 := h2
      rw [nI_eq (by omega) (by omega)] at h2
      refine AF.aload_n dL_law_586 rfl ?_
      refine AF.iconst (nI 0) dL_law_587 (by decide) ?_
      refine AF.laload 0 dL_law_588 ho3 rfl (by omega) (by decide) ?_
      rw [hz2 h2]
      refine AF.iload dL_law_589 rfl ?_
      refine AF.i2l dL_law_591 ?_
      rw [if_pos h2]
      refine AF.lcmp dL_law_592 ?_
      rw [lcmp_self]
      refine AF.if_eq 598 dL_law_593 (by decide) (fun h3 => ?_) (fun h3 => ?_)
      · refine AF.goto 2880 dL_law_598 (by decide) ?_
        exact next F _ _ _ _ hLI
      · exact absurd rfl h3
  · exact absurd rfl h1
set_option maxRecDepth 100000 in
set_option maxHeartbeats 2000000 in
theorem LC6_ok (hL : LI G c F X B) (ha : gN G ≤ c) (hs : SCR G b L xs) (hi : i + 4 < L) (hl : L ≤ 2560) (hB : B + 2500 ≤ 2 ^ 21) (l6 l7 l8 : Option Value) (next : ∀ F' X' l6 l7 l8, LI G c F' X' (B + 2500) → AF G mL_law 13 bc bs R F' 2880 [some (.ref b), some (.ref c), some (.ref (c + 131)), some (.ref (c + 140)), some (.ref (c + 141)), some (.int (nI i)), l6, l7, l8] []) : AF G mL_law 13 (bc + 50) (bs + 6964) R F 601 [some (.ref b), some (.ref c), some (.ref (c + 131)), some (.ref (c + 140)), some (.ref (c + 141)), some (.int (nI i)), l6, l7, l8] [] := by
  obtain ⟨bv, th, f, g, hC, hM, ⟨ho, hod⟩, hbv, hz, hX⟩ := hL
  obtain ⟨x, ex⟩ : ∃ z, z = xs (i + 1) := ⟨_, rfl⟩
  have hpr : (if hasB X.sg.J.length x = true then 0 else 1) ≤ 3 := by split <;> omega
  obtain ⟨hn, hf, ⟨c0, -⟩, -⟩ := id hC
  refine AF.less (d' := 13) (bc' := bc + 1) (bs' := bs + 6) ?_ (Nat.le_refl _) (by omega) (by omega)
  refine AF.aload_n dL_law_601 rfl ?_
  refine AF.aload_n dL_law_602 rfl ?_
  refine AF.iload dL_law_603 rfl ?_
  refine AF.iconst (nI 1) dL_law_605 (by decide) ?_
  refine AF.iadd dL_law_606 ?_
  rw [nI_add]
  refine AF.ialoadT (v := .int x) (i + 1) dL_law_607 hs rfl (by omega) (by omega) (congrArg Value.int ex.symm) ?_
  refine AF.aload_n dL_law_608 rfl ?_
  refine AF.callSX (bc := bc) (bs := bs) (mc' := 1) (ms' := 6) dL_law_609 kx_L_183 (L_height_ok (B := B) hC x hX.1 ho (by omega) (by omega) (by omega) (by omega)) rfl rfl (Nat.le_of_ble_eq_true rfl) (by decide) rfl (fun E F9 q => nomatch q.1) (fun v F2 q => ?_)
  obtain ⟨q, bv2, hC2, ⟨x1, x2, x3⟩, f2, hr2, hz2⟩ := q
  cases q
  have hbv2 : bv2 = c + 42 ∨ c + 142 ≤ bv2 := by omega
  have hM2 := hM.kept (F' := F2) (fun q a b => x3 q (by omega) (by omega) (by omega) (by omega))
  have ho2 := hr2
  have hod2 := (x3 (c + 141) (by omega) (by omega) (by omega) (by omega)).trans hod
  obtain ⟨g2, f9, A2, ⟨m0, -⟩, -⟩ := id hM2
  refine AF.istore dL_law_612 (by decide) ?_
  refine AF.aload_n dL_law_614 rfl ?_
  refine AF.aload_n dL_law_615 rfl ?_
  refine AF.iload dL_law_616 rfl ?_
  refine AF.iconst (nI 1) dL_law_618 (by decide) ?_
  refine AF.iadd dL_law_619 ?_
  rw [nI_add]
  refine AF.ialoadT (v := .int x) (i + 1) dL_law_620 hs rfl (by omega) (by omega) (congrArg Value.int ex.symm) ?_
  refine AF.vw dL_law_621 kv_L_185 (X9_height_ok hM2 (by omega) hX.1 x) (by assumption) rfl rfl rfl (Nat.le_of_ble_eq_true rfl) (by decide) rfl (fun E F9 q => nomatch q.1) (fun v F q => ?_)
  obtain ⟨q, hM3, q3⟩ := q
  cases q
  have hC3 := hC2.kept (fun q a b => q3.2 q (by omega)) (q3.2 bv2 (by omega)) (Nat.le_of_eq q3.1.symm)
  have ho3 := (q3.2 (c + 140) (by omega)).trans ho2
  have hod3 := (q3.2 (c + 141) (by omega)).trans hod2
  clear m0
  obtain ⟨g3, f9, A3, ⟨m0, -⟩, -⟩ := id hM3
  have hLI : LI G c F X (B + 2500) := ⟨bv2, _, f2, g, hC3, hM3, ⟨ho3, hod3⟩, hbv2, by have := q3.1; omega, hX.mono (by omega) hB⟩
  refine AF.istore dL_law_624 (by decide) ?_
  refine AF.aload_n dL_law_626 rfl ?_
  refine AF.v1 dL_law_627 kv_L_163 ((X9_thrown_ok hM3)) (by assumption) rfl rfl rfl (Nat.le_of_ble_eq_true rfl) (by decide) rfl ?_
  refine AF.iload dL_law_630 rfl ?_
  refine AF.icmp_eq 637 dL_law_632 (by decide) (fun h1 => ?_) (fun h1 => ?_)
  · refine AF.iload dL_law_637 rfl ?_
    refine AF.if_ne 654 dL_law_639 (by decide) (fun h2 => ?_) (fun h2 => ?_)
    · refine AF.goto 2880 dL_law_654 (by decide) ?_
      exact next F _ _ _ _ hLI
    · have h2 : nI (if hasB X.sg.J.length x = true then 0 else 1) = nI 0 := h2
      rw [nI_eq (by omega) (by omega)] at h2
      refine AF.aload_n dL_law_642 rfl ?_
      refine AF.iconst (nI 0) dL_law_643 (by decide) ?_
      refine AF.laload 0 dL_law_644 ho3 rfl (by omega) (by decide) ?_
      rw [hz2 h2]
      refine AF.iload dL_law_645 rfl ?_
      refine AF.i2l dL_law_647 ?_
      rw [if_pos h2]
      refine AF.lcmp dL_law_648 ?_
      rw [lcmp_self]
      refine AF.if_eq 654 dL_law_649 (by decide) (fun h3 => ?_) (fun h3 => ?_)
      · refine AF.goto 2880 dL_law_654 (by decide) ?_
        exact next F _ _ _ _ hLI
      · exact absurd rfl h3
  · exact absurd rfl h1
set_option maxRecDepth 100000 in
set_option maxHeartbeats 2000000 in
theorem LC7_ok (hL : LI G c F X B) (ha : gN G ≤ c) (hs : SCR G b L xs) (hi : i + 4 < L) (hl : L ≤ 2560) (hB : B + 2500 ≤ 2 ^ 21) (l6 l7 l8 : Option Value) (next : ∀ F' X' l6 l7 l8, LI G c F' X' (B + 2500) → AF G mL_law 13 bc bs R F' 2880 [some (.ref b), some (.ref c), some (.ref (c + 131)), some (.ref (c + 140)), some (.ref (c + 141)), some (.int (nI i)), l6, l7, l8] []) : AF G mL_law 13 (bc + 50) (bs + 6964) R F 657 [some (.ref b), some (.ref c), some (.ref (c + 131)), some (.ref (c + 140)), some (.ref (c + 141)), some (.int (nI i)), l6, l7, l8] [] := by
  obtain ⟨bv, th, f, g, hC, hM, ⟨ho, hod⟩, hbv, hz, hX⟩ := hL
  obtain ⟨x, ex⟩ : ∃ z, z = xs (i + 1) := ⟨_, rfl⟩
  have hpr : (if hasB X.sg.J.length x = true then 0 else 1) ≤ 3 := by split <;> omega
  obtain ⟨hn, hf, ⟨c0, -⟩, -⟩ := id hC
  refine AF.less (d' := 13) (bc' := bc + 1) (bs' := bs + 6) ?_ (Nat.le_refl _) (by omega) (by omega)
  refine AF.aload_n dL_law_657 rfl ?_
  refine AF.aload_n dL_law_658 rfl ?_
  refine AF.iload dL_law_659 rfl ?_
  refine AF.iconst (nI 1) dL_law_661 (by decide) ?_
  refine AF.iadd dL_law_662 ?_
  rw [nI_add]
  refine AF.ialoadT (v := .int x) (i + 1) dL_law_663 hs rfl (by omega) (by omega) (congrArg Value.int ex.symm) ?_
  refine AF.aload_n dL_law_664 rfl ?_
  refine AF.callSX (bc := bc) (bs := bs) (mc' := 1) (ms' := 6) dL_law_665 kx_L_186 (L_landing_ok (B := B) hC x hX.1 ho (by omega) (by omega) (by omega) (by omega)) rfl rfl (Nat.le_of_ble_eq_true rfl) (by decide) rfl (fun E F9 q => nomatch q.1) (fun v F2 q => ?_)
  obtain ⟨q, bv2, hC2, ⟨x1, x2, x3⟩, f2, hr2, hz2⟩ := q
  cases q
  have hbv2 : bv2 = c + 42 ∨ c + 142 ≤ bv2 := by omega
  have hM2 := hM.kept (F' := F2) (fun q a b => x3 q (by omega) (by omega) (by omega) (by omega))
  have ho2 := hr2
  have hod2 := (x3 (c + 141) (by omega) (by omega) (by omega) (by omega)).trans hod
  obtain ⟨g2, f9, A2, ⟨m0, -⟩, -⟩ := id hM2
  refine AF.istore dL_law_668 (by decide) ?_
  refine AF.aload_n dL_law_670 rfl ?_
  refine AF.aload_n dL_law_671 rfl ?_
  refine AF.iload dL_law_672 rfl ?_
  refine AF.iconst (nI 1) dL_law_674 (by decide) ?_
  refine AF.iadd dL_law_675 ?_
  rw [nI_add]
  refine AF.ialoadT (v := .int x) (i + 1) dL_law_676 hs rfl (by omega) (by omega) (congrArg Value.int ex.symm) ?_
  refine AF.vw dL_law_677 kv_L_188 (X9_landing_ok hM2 (by omega) hX.1 x) (by assumption) rfl rfl rfl (Nat.le_of_ble_eq_true rfl) (by decide) rfl (fun E F9 q => nomatch q.1) (fun v F q => ?_)
  obtain ⟨q, hM3, q3⟩ := q
  cases q
  have hC3 := hC2.kept (fun q a b => q3.2 q (by omega)) (q3.2 bv2 (by omega)) (Nat.le_of_eq q3.1.symm)
  have ho3 := (q3.2 (c + 140) (by omega)).trans ho2
  have hod3 := (q3.2 (c + 141) (by omega)).trans hod2
  clear m0
  obtain ⟨g3, f9, A3, ⟨m0, -⟩, -⟩ := id hM3
  have hLI : LI G c F X (B + 2500) := ⟨bv2, _, f2, g, hC3, hM3, ⟨ho3, hod3⟩, hbv2, by have := q3.1; omega, hX.mono (by omega) hB⟩
  refine AF.istore dL_law_680 (by decide) ?_
  refine AF.aload_n dL_law_682 rfl ?_
  refine AF.v1 dL_law_683 kv_L_163 ((X9_thrown_ok hM3)) (by assumption) rfl rfl rfl (Nat.le_of_ble_eq_true rfl) (by decide) rfl ?_
  refine AF.iload dL_law_686 rfl ?_
  refine AF.icmp_eq 693 dL_law_688 (by decide) (fun h1 => ?_) (fun h1 => ?_)
  · refine AF.iload dL_law_693 rfl ?_
    refine AF.if_ne 710 dL_law_695 (by decide) (fun h2 => ?_) (fun h2 => ?_)
    · refine AF.goto 2880 dL_law_710 (by decide) ?_
      exact next F _ _ _ _ hLI
    · have h2 : nI (if hasB X.sg.J.length x = true then 0 else 1) = nI 0 := h2
      rw [nI_eq (by omega) (by omega)] at h2
      refine AF.aload_n dL_law_698 rfl ?_
      refine AF.iconst (nI 0) dL_law_699 (by decide) ?_
      refine AF.laload 0 dL_law_700 ho3 rfl (by omega) (by decide) ?_
      rw [hz2 h2]
      refine AF.iload dL_law_701 rfl ?_
      refine AF.i2l dL_law_703 ?_
      rw [if_pos h2]
      refine AF.lcmp dL_law_704 ?_
      rw [lcmp_self]
      refine AF.if_eq 710 dL_law_705 (by decide) (fun h3 => ?_) (fun h3 => ?_)
      · refine AF.goto 2880 dL_law_710 (by decide) ?_
        exact next F _ _ _ _ hLI
      · exact absurd rfl h3
  · exact absurd rfl h1
set_option maxRecDepth 100000 in
set_option maxHeartbeats 2000000 in
theorem LC8_ok (hL : LI G c F X B) (ha : gN G ≤ c) (hs : SCR G b L xs) (hi : i + 4 < L) (hl : L ≤ 2560) (hB : B + 2500 ≤ 2 ^ 21) (l6 l7 l8 : Option Value) (next : ∀ F' X' l6 l7 l8, LI G c F' X' (B + 2500) → AF G mL_law 13 bc bs R F' 2880 [some (.ref b), some (.ref c), some (.ref (c + 131)), some (.ref (c + 140)), some (.ref (c + 141)), some (.int (nI i)), l6, l7, l8] []) : AF G mL_law 13 (bc + 50) (bs + 6964) R F 713 [some (.ref b), some (.ref c), some (.ref (c + 131)), some (.ref (c + 140)), some (.ref (c + 141)), some (.int (nI i)), l6, l7, l8] [] := by
  obtain ⟨bv, th, f, g, hC, hM, ⟨ho, hod⟩, hbv, hz, hX⟩ := hL
  obtain ⟨x, ex⟩ : ∃ z, z = xs (i + 1) := ⟨_, rfl⟩
  have hpr : (if hasB X.sg.J.length x = true then 0 else 1) ≤ 3 := by split <;> omega
  obtain ⟨hn, hf, ⟨c0, -⟩, -⟩ := id hC
  refine AF.less (d' := 13) (bc' := bc + 1) (bs' := bs + 6) ?_ (Nat.le_refl _) (by omega) (by omega)
  refine AF.aload_n dL_law_713 rfl ?_
  refine AF.aload_n dL_law_714 rfl ?_
  refine AF.iload dL_law_715 rfl ?_
  refine AF.iconst (nI 1) dL_law_717 (by decide) ?_
  refine AF.iadd dL_law_718 ?_
  rw [nI_add]
  refine AF.ialoadT (v := .int x) (i + 1) dL_law_719 hs rfl (by omega) (by omega) (congrArg Value.int ex.symm) ?_
  refine AF.aload_n dL_law_720 rfl ?_
  refine AF.callSX (bc := bc) (bs := bs) (mc' := 1) (ms' := 6) dL_law_721 kx_L_189 (L_isWild_ok (B := B) hC x hX.1 ho (by omega) (by omega) (by omega) (by omega)) rfl rfl (Nat.le_of_ble_eq_true rfl) (by decide) rfl (fun E F9 q => nomatch q.1) (fun v F2 q => ?_)
  obtain ⟨q, bv2, hC2, ⟨x1, x2, x3⟩, f2, hr2, hz2⟩ := q
  cases q
  have hbv2 : bv2 = c + 42 ∨ c + 142 ≤ bv2 := by omega
  have hM2 := hM.kept (F' := F2) (fun q a b => x3 q (by omega) (by omega) (by omega) (by omega))
  have ho2 := hr2
  have hod2 := (x3 (c + 141) (by omega) (by omega) (by omega) (by omega)).trans hod
  obtain ⟨g2, f9, A2, ⟨m0, -⟩, -⟩ := id hM2
  refine AF.istore dL_law_724 (by decide) ?_
  refine AF.aload_n dL_law_726 rfl ?_
  refine AF.aload_n dL_law_727 rfl ?_
  refine AF.iload dL_law_728 rfl ?_
  refine AF.iconst (nI 1) dL_law_730 (by decide) ?_
  refine AF.iadd dL_law_731 ?_
  rw [nI_add]
  refine AF.ialoadT (v := .int x) (i + 1) dL_law_732 hs rfl (by omega) (by omega) (congrArg Value.int ex.symm) ?_
  refine AF.vw dL_law_733 kv_L_191 (X9_isWild_ok hM2 (by omega) hX.1 x) (by assumption) rfl rfl rfl (Nat.le_of_ble_eq_true rfl) (by decide) rfl (fun E F9 q => nomatch q.1) (fun v F q => ?_)
  obtain ⟨q, hM3, q3⟩ := q
  cases q
  have hC3 := hC2.kept (fun q a b => q3.2 q (by omega)) (q3.2 bv2 (by omega)) (Nat.le_of_eq q3.1.symm)
  have ho3 := (q3.2 (c + 140) (by omega)).trans ho2
  have hod3 := (q3.2 (c + 141) (by omega)).trans hod2
  clear m0
  obtain ⟨g3, f9, A3, ⟨m0, -⟩, -⟩ := id hM3
  have hLI : LI G c F X (B + 2500) := ⟨bv2, _, f2, g, hC3, hM3, ⟨ho3, hod3⟩, hbv2, by have := q3.1; omega, hX.mono (by omega) hB⟩
  refine AF.istore dL_law_736 (by decide) ?_
  refine AF.aload_n dL_law_738 rfl ?_
  refine AF.v1 dL_law_739 kv_L_163 ((X9_thrown_ok hM3)) (by assumption) rfl rfl rfl (Nat.le_of_ble_eq_true rfl) (by decide) rfl ?_
  refine AF.iload dL_law_742 rfl ?_
  refine AF.icmp_eq 749 dL_law_744 (by decide) (fun h1 => ?_) (fun h1 => ?_)
  · refine AF.iload dL_law_749 rfl ?_
    refine AF.if_ne 773 dL_law_751 (by decide) (fun h2 => ?_) (fun h2 => ?_)
    · refine AF.goto 2880 dL_law_773 (by decide) ?_
      exact next F _ _ _ _ hLI
    · have h2 : nI (if hasB X.sg.J.length x = true then 0 else 1) = nI 0 := h2
      rw [nI_eq (by omega) (by omega)] at h2
      refine AF.aload_n dL_law_754 rfl ?_
      refine AF.iconst (nI 0) dL_law_755 (by decide) ?_
      refine AF.laload 0 dL_law_756 ho3 rfl (by omega) (by decide) ?_
      rw [hz2 h2]
      refine AF.iload dL_law_757 rfl ?_
      rw [if_pos h2]
      refine AF.if_eq 766 dL_law_759 (by decide) (fun h4 => ?_) (fun h4 => ?_)
      · rw [if_pos h4]
        refine AF.lconst (0) dL_law_766 (by decide) ?_
        refine AF.lcmp dL_law_767 ?_
        rw [lcmp_self]
        refine AF.if_eq 773 dL_law_768 (by decide) (fun h3 => ?_) (fun h3 => ?_)
        · refine AF.goto 2880 dL_law_773 (by decide) ?_
          exact next F _ _ _ _ hLI
        · exact absurd rfl h3
      · rw [if_neg h4]
        refine AF.lconst (1) dL_law_762 (by decide) ?_
        refine AF.goto 767 dL_law_763 (by decide) ?_
        refine AF.lcmp dL_law_767 ?_
        rw [lcmp_self]
        refine AF.if_eq 773 dL_law_768 (by decide) (fun h3 => ?_) (fun h3 => ?_)
        · refine AF.goto 2880 dL_law_773 (by decide) ?_
          exact next F _ _ _ _ hLI
        · exact absurd rfl h3
  · exact absurd rfl h1
set_option maxRecDepth 100000 in
set_option maxHeartbeats 2000000 in
theorem LC9_ok (hL : LI G c F X B) (ha : gN G ≤ c) (hs : SCR G b L xs) (hi : i + 4 < L) (hl : L ≤ 2560) (hB : B + 2500 ≤ 2 ^ 21) (l6 l7 l8 : Option Value) (next : ∀ F' X' l6 l7 l8, LI G c F' X' (B + 2500) → AF G mL_law 13 bc bs R F' 2880 [some (.ref b), some (.ref c), some (.ref (c + 131)), some (.ref (c + 140)), some (.ref (c + 141)), some (.int (nI i)), l6, l7, l8] []) : AF G mL_law 13 (bc + 50) (bs + 6964) R F 776 [some (.ref b), some (.ref c), some (.ref (c + 131)), some (.ref (c + 140)), some (.ref (c + 141)), some (.int (nI i)), l6, l7, l8] [] := by
  obtain ⟨bv, th, f, g, hC, hM, ⟨ho, hod⟩, hbv, hz, hX⟩ := hL
  obtain ⟨hn, hf, ⟨c0, -⟩, -⟩ := id hC
  refine AF.less (d' := 13) (bc' := bc) (bs' := bs) ?_ (Nat.le_refl _) (by omega) (by omega)
  refine AF.aload_n dL_law_776 rfl ?_
  refine AF.vw dL_law_777 kv_L_192 (X8_wildCount_ok hC hX.1) c0 rfl rfl rfl (Nat.le_of_ble_eq_true rfl) (by decide) rfl (fun E F9 q => absurd rfl (rx_x q.1).1) (fun v F2 q => ?_)
  obtain ⟨q, bv2, hC2, x1, x2, x3⟩ := q
  obtain ⟨-, q⟩ := rx_n q
  cases q
  have hbv2 : bv2 = c + 42 ∨ c + 142 ≤ bv2 := by omega
  have hM2 := hM.kept (F' := F2) (fun q a b => x3 q (by omega) (by omega) (by omega))
  have ho2 := (x3 (c + 140) (by omega) (by omega) (by omega)).trans ho
  have hod2 := (x3 (c + 141) (by omega) (by omega) (by omega)).trans hod
  obtain ⟨g2, f9, A2, ⟨m0, -⟩, -⟩ := id hM2
  refine AF.aload_n dL_law_780 rfl ?_
  refine AF.vw dL_law_781 kv_L_195 (X9_wildCount_ok hM2 (by omega) hX.1) (by assumption) rfl rfl rfl (Nat.le_of_ble_eq_true rfl) (by decide) rfl (fun E F9 q => nomatch q.1) (fun v F q => ?_)
  obtain ⟨q, hM3, q3⟩ := q
  cases q
  have hC3 := hC2.kept (fun q a b => q3.2 q (by omega)) (q3.2 bv2 (by omega)) (Nat.le_of_eq q3.1.symm)
  have ho3 := (q3.2 (c + 140) (by omega)).trans ho2
  have hod3 := (q3.2 (c + 141) (by omega)).trans hod2
  have hLI : LI G c F _ (B + 2500) := ⟨bv2, _, f, g, hC3, hM3, ⟨ho3, hod3⟩, hbv2, by have := q3.1; omega, hX.mono (by omega) hB⟩
  refine AF.icmp_eq 2880 dL_law_784 (by decide) (fun h1 => ?_) (fun h1 => ?_)
  · exact next F _ _ _ _ hLI
  · exact absurd rfl h1
set_option maxRecDepth 100000 in
set_option maxHeartbeats 2000000 in
theorem LC10_ok (hL : LI G c F X B) (ha : gN G ≤ c) (hs : SCR G b L xs) (hi : i + 4 < L) (hl : L ≤ 2560) (hB : B + 2500 ≤ 2 ^ 21) (l6 l7 l8 : Option Value) (next : ∀ F' X' l6 l7 l8, LI G c F' X' (B + 2500) → AF G mL_law 13 bc bs R F' 2880 [some (.ref b), some (.ref c), some (.ref (c + 131)), some (.ref (c + 140)), some (.ref (c + 141)), some (.int (nI i)), l6, l7, l8] []) : AF G mL_law 13 (bc + 50) (bs + 6964) R F 789 [some (.ref b), some (.ref c), some (.ref (c + 131)), some (.ref (c + 140)), some (.ref (c + 141)), some (.int (nI i)), l6, l7, l8] [] := by
  obtain ⟨bv, th, f, g, hC, hM, ⟨ho, hod⟩, hbv, hz, hX⟩ := hL
  have hpr : (if X.sg.J.length = 0 then 1 else 0) ≤ 3 := by split <;> omega
  obtain ⟨hn, hf, ⟨c0, -⟩, -⟩ := id hC
  refine AF.less (d' := 13) (bc' := bc + 1) (bs' := bs + 6) ?_ (Nat.le_refl _) (by omega) (by omega)
  refine AF.aload_n dL_law_789 rfl ?_
  refine AF.aload_n dL_law_790 rfl ?_
  refine AF.callSX (bc := bc) (bs := bs) (mc' := 1) (ms' := 6) dL_law_791 kx_L_196 (L_highestJet_ok (B := B) hC hX.1 ho (by omega) (by omega) (by omega) (by omega)) rfl rfl (Nat.le_of_ble_eq_true rfl) (by decide) rfl (fun E F9 q => nomatch q.1) (fun v F2 q => ?_)
  obtain ⟨q, bv2, hC2, ⟨x1, x2, x3⟩, f2, hr2, hz2⟩ := q
  cases q
  have hbv2 : bv2 = c + 42 ∨ c + 142 ≤ bv2 := by omega
  have hM2 := hM.kept (F' := F2) (fun q a b => x3 q (by omega) (by omega) (by omega) (by omega))
  have ho2 := hr2
  have hod2 := (x3 (c + 141) (by omega) (by omega) (by omega) (by omega)).trans hod
  obtain ⟨g2, f9, A2, ⟨m0, -⟩, -⟩ := id hM2
  refine AF.istore dL_law_794 (by decide) ?_
  refine AF.aload_n dL_law_796 rfl ?_
  refine AF.vw dL_law_797 kv_L_199 (X9_highestJet_ok hM2 (by omega) hX.1) (by assumption) rfl rfl rfl (Nat.le_of_ble_eq_true rfl) (by decide) rfl (fun E F9 q => nomatch q.1) (fun v F q => ?_)
  obtain ⟨q, hM3, q3⟩ := q
  cases q
  have hC3 := hC2.kept (fun q a b => q3.2 q (by omega)) (q3.2 bv2 (by omega)) (Nat.le_of_eq q3.1.symm)
  have ho3 := (q3.2 (c + 140) (by omega)).trans ho2
  have hod3 := (q3.2 (c + 141) (by omega)).trans hod2
  clear m0
  obtain ⟨g3, f9, A3, ⟨m0, -⟩, -⟩ := id hM3
  have hLI : LI G c F X (B + 2500) := ⟨bv2, _, f2, g, hC3, hM3, ⟨ho3, hod3⟩, hbv2, by have := q3.1; omega, hX.mono (by omega) hB⟩
  refine AF.istore dL_law_800 (by decide) ?_
  refine AF.aload_n dL_law_802 rfl ?_
  refine AF.v1 dL_law_803 kv_L_163 ((X9_thrown_ok hM3)) (by assumption) rfl rfl rfl (Nat.le_of_ble_eq_true rfl) (by decide) rfl ?_
  refine AF.iload dL_law_806 rfl ?_
  refine AF.icmp_eq 813 dL_law_808 (by decide) (fun h1 => ?_) (fun h1 => ?_)
  · refine AF.iload dL_law_813 rfl ?_
    refine AF.if_ne 830 dL_law_815 (by decide) (fun h2 => ?_) (fun h2 => ?_)
    · refine AF.goto 2880 dL_law_830 (by decide) ?_
      exact next F _ _ _ _ hLI
    · have h2 : nI (if X.sg.J.length = 0 then 1 else 0) = nI 0 := h2
      rw [nI_eq (by omega) (by omega)] at h2
      refine AF.aload_n dL_law_818 rfl ?_
      refine AF.iconst (nI 0) dL_law_819 (by decide) ?_
      refine AF.laload 0 dL_law_820 ho3 rfl (by omega) (by decide) ?_
      rw [hz2 h2]
      refine AF.iload dL_law_821 rfl ?_
      refine AF.i2l dL_law_823 ?_
      rw [if_pos h2]
      refine AF.lcmp dL_law_824 ?_
      rw [lcmp_self]
      refine AF.if_eq 830 dL_law_825 (by decide) (fun h3 => ?_) (fun h3 => ?_)
      · refine AF.goto 2880 dL_law_830 (by decide) ?_
        exact next F _ _ _ _ hLI
      · exact absurd rfl h3
  · exact absurd rfl h1
set_option maxRecDepth 100000 in
set_option maxHeartbeats 2000000 in
theorem LC11_ok (hL : LI G c F X B) (ha : gN G ≤ c) (hs : SCR G b L xs) (hi : i + 4 < L) (hl : L ≤ 2560) (hB : B + 2500 ≤ 2 ^ 21) (l6 l7 l8 : Option Value) (next : ∀ F' X' l6 l7 l8, LI G c F' X' (B + 2500) → AF G mL_law 13 bc bs R F' 2880 [some (.ref b), some (.ref c), some (.ref (c + 131)), some (.ref (c + 140)), some (.ref (c + 141)), some (.int (nI i)), l6, l7, l8] []) : AF G mL_law 13 (bc + 50) (bs + 6964) R F 833 [some (.ref b), some (.ref c), some (.ref (c + 131)), some (.ref (c + 140)), some (.ref (c + 141)), some (.int (nI i)), l6, l7, l8] [] := by
  obtain ⟨bv, th, f, g, hC, hM, ⟨ho, hod⟩, hbv, hz, hX⟩ := hL
  obtain ⟨x, ex⟩ : ∃ z, z = xs (i + 1) := ⟨_, rfl⟩
  have hpr : (if (fnd (fun j => decide (nI (rnk X.sg.J j) = x)) X.sg.J.length).isSome = true then 0 else 1) ≤ 3 := by split <;> omega
  obtain ⟨hn, hf, ⟨c0, -⟩, -⟩ := id hC
  refine AF.less (d' := 13) (bc' := bc + 1) (bs' := bs + 6) ?_ (Nat.le_refl _) (by omega) (by omega)
  refine AF.aload_n dL_law_833 rfl ?_
  refine AF.aload_n dL_law_834 rfl ?_
  refine AF.iload dL_law_835 rfl ?_
  refine AF.iconst (nI 1) dL_law_837 (by decide) ?_
  refine AF.iadd dL_law_838 ?_
  rw [nI_add]
  refine AF.ialoadT (v := .int x) (i + 1) dL_law_839 hs rfl (by omega) (by omega) (congrArg Value.int ex.symm) ?_
  refine AF.aload_n dL_law_840 rfl ?_
  refine AF.callSX (bc := bc) (bs := bs) (mc' := 1) (ms' := 6) dL_law_841 kx_L_200 (L_jetByPosition_ok (B := B) hC x hX.1 ho (by omega) (by omega) (by omega) (by omega)) rfl rfl (Nat.le_of_ble_eq_true rfl) (by decide) rfl (fun E F9 q => nomatch q.1) (fun v F2 q => ?_)
  obtain ⟨q, bv2, hC2, ⟨x1, x2, x3⟩, f2, hr2, hz2⟩ := q
  cases q
  have hbv2 : bv2 = c + 42 ∨ c + 142 ≤ bv2 := by omega
  have hM2 := hM.kept (F' := F2) (fun q a b => x3 q (by omega) (by omega) (by omega) (by omega))
  have ho2 := hr2
  have hod2 := (x3 (c + 141) (by omega) (by omega) (by omega) (by omega)).trans hod
  obtain ⟨g2, f9, A2, ⟨m0, -⟩, -⟩ := id hM2
  refine AF.istore dL_law_844 (by decide) ?_
  refine AF.aload_n dL_law_846 rfl ?_
  refine AF.aload_n dL_law_847 rfl ?_
  refine AF.iload dL_law_848 rfl ?_
  refine AF.iconst (nI 1) dL_law_850 (by decide) ?_
  refine AF.iadd dL_law_851 ?_
  rw [nI_add]
  refine AF.ialoadT (v := .int x) (i + 1) dL_law_852 hs rfl (by omega) (by omega) (congrArg Value.int ex.symm) ?_
  refine AF.vw dL_law_853 kv_L_202 (X9_jetByPosition_ok hM2 (by omega) hX.1 x) (by assumption) rfl rfl rfl (Nat.le_of_ble_eq_true rfl) (by decide) rfl (fun E F9 q => nomatch q.1) (fun v F q => ?_)
  obtain ⟨q, hM3, q3⟩ := q
  cases q
  have hC3 := hC2.kept (fun q a b => q3.2 q (by omega)) (q3.2 bv2 (by omega)) (Nat.le_of_eq q3.1.symm)
  have ho3 := (q3.2 (c + 140) (by omega)).trans ho2
  have hod3 := (q3.2 (c + 141) (by omega)).trans hod2
  clear m0
  obtain ⟨g3, f9, A3, ⟨m0, -⟩, -⟩ := id hM3
  have hLI : LI G c F X (B + 2500) := ⟨bv2, _, f2, g, hC3, hM3, ⟨ho3, hod3⟩, hbv2, by have := q3.1; omega, hX.mono (by omega) hB⟩
  refine AF.istore dL_law_856 (by decide) ?_
  refine AF.aload_n dL_law_858 rfl ?_
  refine AF.v1 dL_law_859 kv_L_163 ((X9_thrown_ok hM3)) (by assumption) rfl rfl rfl (Nat.le_of_ble_eq_true rfl) (by decide) rfl ?_
  refine AF.iload dL_law_862 rfl ?_
  refine AF.icmp_eq 869 dL_law_864 (by decide) (fun h1 => ?_) (fun h1 => ?_)
  · refine AF.iload dL_law_869 rfl ?_
    refine AF.if_ne 886 dL_law_871 (by decide) (fun h2 => ?_) (fun h2 => ?_)
    · refine AF.goto 2880 dL_law_886 (by decide) ?_
      exact next F _ _ _ _ hLI
    · have h2 : nI (if (fnd (fun j => decide (nI (rnk X.sg.J j) = x)) X.sg.J.length).isSome = true then 0 else 1) = nI 0 := h2
      rw [nI_eq (by omega) (by omega)] at h2
      refine AF.aload_n dL_law_874 rfl ?_
      refine AF.iconst (nI 0) dL_law_875 (by decide) ?_
      refine AF.laload 0 dL_law_876 ho3 rfl (by omega) (by decide) ?_
      rw [hz2 h2]
      refine AF.iload dL_law_877 rfl ?_
      refine AF.i2l dL_law_879 ?_
      rw [if_pos h2]
      refine AF.lcmp dL_law_880 ?_
      rw [lcmp_self]
      refine AF.if_eq 886 dL_law_881 (by decide) (fun h3 => ?_) (fun h3 => ?_)
      · refine AF.goto 2880 dL_law_886 (by decide) ?_
        exact next F _ _ _ _ hLI
      · exact absurd rfl h3
  · exact absurd rfl h1
set_option maxRecDepth 100000 in
set_option maxHeartbeats 2000000 in
theorem LC12_ok (hL : LI G c F X B) (ha : gN G ≤ c) (hs : SCR G b L xs) (hi : i + 4 < L) (hl : L ≤ 2560) (hB : B + 2500 ≤ 2 ^ 21) (l6 l7 l8 : Option Value) (next : ∀ F' X' l6 l7 l8, LI G c F' X' (B + 2500) → AF G mL_law 13 bc bs R F' 2880 [some (.ref b), some (.ref c), some (.ref (c + 131)), some (.ref (c + 140)), some (.ref (c + 141)), some (.int (nI i)), l6, l7, l8] []) : AF G mL_law 13 (bc + 50) (bs + 6964) R F 889 [some (.ref b), some (.ref c), some (.ref (c + 131)), some (.ref (c + 140)), some (.ref (c + 141)), some (.int (nI i)), l6, l7, l8] [] := by
  obtain ⟨bv, th, f, g, hC, hM, ⟨ho, hod⟩, hbv, hz, hX⟩ := hL
  obtain ⟨x, ex⟩ : ∃ z, z = xs (i + 1) := ⟨_, rfl⟩
  have hpr : (if X.sg.J.length = 0 then 1 else 0) ≤ 3 := by split <;> omega
  obtain ⟨hn, hf, ⟨c0, -⟩, -⟩ := id hC
  refine AF.less (d' := 13) (bc' := bc + 1) (bs' := bs + 6) ?_ (Nat.le_refl _) (by omega) (by omega)
  refine AF.aload_n dL_law_889 rfl ?_
  refine AF.aload_n dL_law_890 rfl ?_
  refine AF.iload dL_law_891 rfl ?_
  refine AF.iconst (nI 1) dL_law_893 (by decide) ?_
  refine AF.iadd dL_law_894 ?_
  rw [nI_add]
  refine AF.ialoadT (v := .int x) (i + 1) dL_law_895 hs rfl (by omega) (by omega) (congrArg Value.int ex.symm) ?_
  refine AF.aload_n dL_law_896 rfl ?_
  refine AF.callSX (bc := bc) (bs := bs) (mc' := 1) (ms' := 6) dL_law_897 kx_L_203 (L_nearestLanding_ok (B := B) hC x hX.1 ho (by omega) (by omega) (by omega) (by omega)) rfl rfl (Nat.le_of_ble_eq_true rfl) (by decide) rfl (fun E F9 q => nomatch q.1) (fun v F2 q => ?_)
  obtain ⟨q, bv2, hC2, ⟨x1, x2, x3⟩, f2, hr2, hz2⟩ := q
  cases q
  have hbv2 : bv2 = c + 42 ∨ c + 142 ≤ bv2 := by omega
  have hM2 := hM.kept (F' := F2) (fun q a b => x3 q (by omega) (by omega) (by omega) (by omega))
  have ho2 := hr2
  have hod2 := (x3 (c + 141) (by omega) (by omega) (by omega) (by omega)).trans hod
  obtain ⟨g2, f9, A2, ⟨m0, -⟩, -⟩ := id hM2
  refine AF.istore dL_law_900 (by decide) ?_
  refine AF.aload_n dL_law_902 rfl ?_
  refine AF.aload_n dL_law_903 rfl ?_
  refine AF.iload dL_law_904 rfl ?_
  refine AF.iconst (nI 1) dL_law_906 (by decide) ?_
  refine AF.iadd dL_law_907 ?_
  rw [nI_add]
  refine AF.ialoadT (v := .int x) (i + 1) dL_law_908 hs rfl (by omega) (by omega) (congrArg Value.int ex.symm) ?_
  refine AF.vw dL_law_909 kv_L_205 (X9_nearestLanding_ok hM2 (by omega) hX.1 x) (by assumption) rfl rfl rfl (Nat.le_of_ble_eq_true rfl) (by decide) rfl (fun E F9 q => nomatch q.1) (fun v F q => ?_)
  obtain ⟨q, hM3, q3⟩ := q
  cases q
  have hC3 := hC2.kept (fun q a b => q3.2 q (by omega)) (q3.2 bv2 (by omega)) (Nat.le_of_eq q3.1.symm)
  have ho3 := (q3.2 (c + 140) (by omega)).trans ho2
  have hod3 := (q3.2 (c + 141) (by omega)).trans hod2
  clear m0
  obtain ⟨g3, f9, A3, ⟨m0, -⟩, -⟩ := id hM3
  have hLI : LI G c F X (B + 2500) := ⟨bv2, _, f2, g, hC3, hM3, ⟨ho3, hod3⟩, hbv2, by have := q3.1; omega, hX.mono (by omega) hB⟩
  refine AF.istore dL_law_912 (by decide) ?_
  refine AF.aload_n dL_law_914 rfl ?_
  refine AF.v1 dL_law_915 kv_L_163 ((X9_thrown_ok hM3)) (by assumption) rfl rfl rfl (Nat.le_of_ble_eq_true rfl) (by decide) rfl ?_
  refine AF.iload dL_law_918 rfl ?_
  refine AF.icmp_eq 925 dL_law_920 (by decide) (fun h1 => ?_) (fun h1 => ?_)
  · refine AF.iload dL_law_925 rfl ?_
    refine AF.if_ne 942 dL_law_927 (by decide) (fun h2 => ?_) (fun h2 => ?_)
    · refine AF.goto 2880 dL_law_942 (by decide) ?_
      exact next F _ _ _ _ hLI
    · have h2 : nI (if X.sg.J.length = 0 then 1 else 0) = nI 0 := h2
      rw [nI_eq (by omega) (by omega)] at h2
      refine AF.aload_n dL_law_930 rfl ?_
      refine AF.iconst (nI 0) dL_law_931 (by decide) ?_
      refine AF.laload 0 dL_law_932 ho3 rfl (by omega) (by decide) ?_
      rw [hz2 h2]
      refine AF.iload dL_law_933 rfl ?_
      refine AF.i2l dL_law_935 ?_
      rw [if_pos h2]
      refine AF.lcmp dL_law_936 ?_
      rw [lcmp_self]
      refine AF.if_eq 942 dL_law_937 (by decide) (fun h3 => ?_) (fun h3 => ?_)
      · refine AF.goto 2880 dL_law_942 (by decide) ?_
        exact next F _ _ _ _ hLI
      · exact absurd rfl h3
  · exact absurd rfl h1
set_option maxRecDepth 100000 in
set_option maxHeartbeats 2000000 in
theorem LC13_ok (hL : LI G c F X B) (ha : gN G ≤ c) (hs : SCR G b L xs) (hi : i + 4 < L) (hl : L ≤ 2560) (hB : B + 2500 ≤ 2 ^ 21) (l6 l7 l8 : Option Value) (next : ∀ F' X' l6 l7 l8, LI G c F' X' (B + 2500) → AF G mL_law 13 bc bs R F' 2880 [some (.ref b), some (.ref c), some (.ref (c + 131)), some (.ref (c + 140)), some (.ref (c + 141)), some (.int (nI i)), l6, l7, l8] []) : AF G mL_law 13 (bc + 50) (bs + 6964) R F 945 [some (.ref b), some (.ref c), some (.ref (c + 131)), some (.ref (c + 140)), some (.ref (c + 141)), some (.int (nI i)), l6, l7, l8] [] := by
  obtain ⟨bv, th, f, g, hC, hM, ⟨ho, hod⟩, hbv, hz, hX⟩ := hL
  obtain ⟨hn, hf, ⟨c0, -⟩, -⟩ := id hC
  refine AF.less (d' := 13) (bc' := bc) (bs' := bs) ?_ (Nat.le_refl _) (by omega) (by omega)
  refine AF.aload_n dL_law_945 rfl ?_
  refine AF.vw dL_law_946 kv_L_206 (X8_crossings_ok hC hX.1) c0 rfl rfl rfl (Nat.le_of_ble_eq_true rfl) (by decide) rfl (fun E F9 q => absurd rfl (rx_x q.1).1) (fun v F2 q => ?_)
  obtain ⟨q, bv2, hC2, x1, x2, x3⟩ := q
  obtain ⟨-, q⟩ := rx_n q
  cases q
  have hbv2 : bv2 = c + 42 ∨ c + 142 ≤ bv2 := by omega
  have hM2 := hM.kept (F' := F2) (fun q a b => x3 q (by omega) (by omega) (by omega))
  have ho2 := (x3 (c + 140) (by omega) (by omega) (by omega)).trans ho
  have hod2 := (x3 (c + 141) (by omega) (by omega) (by omega)).trans hod
  obtain ⟨g2, f9, A2, ⟨m0, -⟩, -⟩ := id hM2
  refine AF.aload_n dL_law_949 rfl ?_
  refine AF.vw dL_law_950 kv_L_209 (X9_crossings_ok hM2 (by omega) hX.1) (by assumption) rfl rfl rfl (Nat.le_of_ble_eq_true rfl) (by decide) rfl (fun E F9 q => nomatch q.1) (fun v F q => ?_)
  obtain ⟨q, hM3, q3⟩ := q
  cases q
  have hC3 := hC2.kept (fun q a b => q3.2 q (by omega)) (q3.2 bv2 (by omega)) (Nat.le_of_eq q3.1.symm)
  have ho3 := (q3.2 (c + 140) (by omega)).trans ho2
  have hod3 := (q3.2 (c + 141) (by omega)).trans hod2
  have hLI : LI G c F _ (B + 2500) := ⟨bv2, _, f, g, hC3, hM3, ⟨ho3, hod3⟩, hbv2, by have := q3.1; omega, hX.mono (by omega) hB⟩
  refine AF.icmp_eq 2880 dL_law_953 (by decide) (fun h1 => ?_) (fun h1 => ?_)
  · exact next F _ _ _ _ hLI
  · exact absurd rfl h1
set_option maxRecDepth 100000 in
set_option maxHeartbeats 2000000 in
theorem LC14_ok (hL : LI G c F X B) (ha : gN G ≤ c) (hs : SCR G b L xs) (hi : i + 4 < L) (hl : L ≤ 2560) (hB : B + 2500 ≤ 2 ^ 21) (l6 l7 l8 : Option Value) (next : ∀ F' X' l6 l7 l8, LI G c F' X' (B + 2500) → AF G mL_law 13 bc bs R F' 2880 [some (.ref b), some (.ref c), some (.ref (c + 131)), some (.ref (c + 140)), some (.ref (c + 141)), some (.int (nI i)), l6, l7, l8] []) : AF G mL_law 13 (bc + 50) (bs + 6964) R F 958 [some (.ref b), some (.ref c), some (.ref (c + 131)), some (.ref (c + 140)), some (.ref (c + 141)), some (.int (nI i)), l6, l7, l8] [] := by
  obtain ⟨bv, th, f, g, hC, hM, ⟨ho, hod⟩, hbv, hz, hX⟩ := hL
  obtain ⟨hn, hf, ⟨c0, -⟩, -⟩ := id hC
  refine AF.less (d' := 13) (bc' := bc) (bs' := bs) ?_ (Nat.le_refl _) (by omega) (by omega)
  refine AF.aload_n dL_law_958 rfl ?_
  refine AF.vw dL_law_959 kv_L_210 (X8_crossingsByMerging_ok hC ha hX.1) c0 rfl rfl rfl (Nat.le_of_ble_eq_true rfl) (by decide) rfl (fun E F9 q => absurd rfl (rx_x q.1).1) (fun v F2 q => ?_)
  obtain ⟨q, bv2, hC2, x1, x2, x3⟩ := q
  obtain ⟨-, q⟩ := rx_n q
  cases q
  have hbv2 : bv2 = c + 42 ∨ c + 142 ≤ bv2 := by omega
  have hM2 := hM.kept (F' := F2) (fun q a b => x3 q (by omega) (by omega) (by omega))
  have ho2 := (x3 (c + 140) (by omega) (by omega) (by omega)).trans ho
  have hod2 := (x3 (c + 141) (by omega) (by omega) (by omega)).trans hod
  obtain ⟨g2, f9, A2, ⟨m0, -⟩, -⟩ := id hM2
  refine AF.aload_n dL_law_962 rfl ?_
  refine AF.vw dL_law_963 kv_L_213 (X9_crossingsByMerging_ok hM2 (by omega) hX.1) (by assumption) rfl rfl rfl (Nat.le_of_ble_eq_true rfl) (by decide) rfl (fun E F9 q => nomatch q.1) (fun v F q => ?_)
  obtain ⟨q, hM3, q3⟩ := q
  cases q
  have hC3 := hC2.kept (fun q a b => q3.2 q (by omega)) (q3.2 bv2 (by omega)) (Nat.le_of_eq q3.1.symm)
  have ho3 := (q3.2 (c + 140) (by omega)).trans ho2
  have hod3 := (q3.2 (c + 141) (by omega)).trans hod2
  have hLI : LI G c F _ (B + 2500) := ⟨bv2, _, f, g, hC3, hM3, ⟨ho3, hod3⟩, hbv2, by have := q3.1; omega, hX.mono (by omega) hB⟩
  refine AF.icmp_eq 2880 dL_law_966 (by decide) (fun h1 => ?_) (fun h1 => ?_)
  · exact next F _ _ _ _ hLI
  · exact absurd rfl h1
end

