/-! The law's calls 45 to 58: from one state known to the next. -/
section
variable {G : GA} {F : AH} {b c L i B bc bs : Nat} {xs : Nat → Int32} {X : XS} {R : AR → AH → Prop}
set_option maxRecDepth 100000 in
set_option maxHeartbeats 2000000 in
theorem LC45_ok (hL : LI G c F X B) (ha : gN G ≤ c) (hs : SCR G b L xs) (hi : i + 4 < L) (hl : L ≤ 2560) (hB : B + 2500 ≤ 2 ^ 21) (l6 l7 l8 : Option Value) (next : ∀ F' X' l6 l7 l8, LI G c F' X' (B + 2500) → AF G mL_law 13 bc bs R F' 2880 [some (.ref b), some (.ref c), some (.ref (c + 131)), some (.ref (c + 140)), some (.ref (c + 141)), some (.int (nI i)), l6, l7, l8] []) : AF G mL_law 13 (bc + 50) (bs + 6964) R F 2264 [some (.ref b), some (.ref c), some (.ref (c + 131)), some (.ref (c + 140)), some (.ref (c + 141)), some (.int (nI i)), l6, l7, l8] [] := by
  obtain ⟨bv, th, f, g, hC, hM, ⟨ho, hod⟩, hbv, hz, hX⟩ := hL
  obtain ⟨x, ex⟩ : ∃ z, z = xs (i + 1) := ⟨_, rfl⟩
  have hpr : (if inB x 0 40 = true then (if (fov X.sg (cl x)).isSome = true then 0 else 2) else 1) ≤ 3 := by split <;> (try split) <;> omega
  obtain ⟨hn, hf, ⟨c0, -⟩, -⟩ := id hC
  refine AF.less (d' := 13) (bc' := bc + 2) (bs' := bs + 12) ?_ (Nat.le_refl _) (by omega) (by omega)
  refine AF.aload_n dL_law_2264 rfl ?_
  refine AF.aload_n dL_law_2265 rfl ?_
  refine AF.iload dL_law_2266 rfl ?_
  refine AF.iconst (nI 1) dL_law_2268 (by decide) ?_
  refine AF.iadd dL_law_2269 ?_
  rw [nI_add]
  refine AF.ialoadT (v := .int x) (i + 1) dL_law_2270 hs rfl (by omega) (by omega) (congrArg Value.int ex.symm) ?_
  refine AF.aload_n dL_law_2271 rfl ?_
  refine AF.callSX (bc := bc) (bs := bs) (mc' := 2) (ms' := 12) dL_law_2272 kx_L_317 (L_firstOverload_ok (B := B) hC x ha hX.1 (by omega) ho (by omega) (by omega) (by omega) (by omega)) rfl rfl (Nat.le_of_ble_eq_true rfl) (by decide) rfl (fun E F9 q => nomatch q.1) (fun v F2 q => ?_)
  obtain ⟨q, bv2, hC2, ⟨x1, x2, x3⟩, f2, hr2, hz2⟩ := q
  cases q
  have hbv2 : bv2 = c + 42 ∨ c + 142 ≤ bv2 := by omega
  have hM2 := hM.kept (F' := F2) (fun q a b => x3 q (by omega) (by omega) (by omega) (by omega))
  have ho2 := hr2
  have hod2 := (x3 (c + 141) (by omega) (by omega) (by omega) (by omega)).trans hod
  obtain ⟨g2, f9, A2, ⟨m0, -⟩, -⟩ := id hM2
  refine AF.istore dL_law_2275 (by decide) ?_
  refine AF.aload_n dL_law_2277 rfl ?_
  refine AF.aload_n dL_law_2278 rfl ?_
  refine AF.iload dL_law_2279 rfl ?_
  refine AF.iconst (nI 1) dL_law_2281 (by decide) ?_
  refine AF.iadd dL_law_2282 ?_
  rw [nI_add]
  refine AF.ialoadT (v := .int x) (i + 1) dL_law_2283 hs rfl (by omega) (by omega) (congrArg Value.int ex.symm) ?_
  refine AF.vw dL_law_2284 kv_L_319 (X9_firstOverload_ok hM2 (by omega) hX.1 (by omega) x) (by assumption) rfl rfl rfl (Nat.le_of_ble_eq_true rfl) (by decide) rfl (fun E F9 q => nomatch q.1) (fun v F q => ?_)
  obtain ⟨q, hM3, q3⟩ := q
  cases q
  have hC3 := hC2.kept (fun q a b => q3.2 q (by omega)) (q3.2 bv2 (by omega)) (Nat.le_of_eq q3.1.symm)
  have ho3 := (q3.2 (c + 140) (by omega)).trans ho2
  have hod3 := (q3.2 (c + 141) (by omega)).trans hod2
  clear m0
  obtain ⟨g3, f9, A3, ⟨m0, -⟩, -⟩ := id hM3
  have hLI : LI G c F X (B + 2500) := ⟨bv2, _, f2, g, hC3, hM3, ⟨ho3, hod3⟩, hbv2, by have := q3.1; omega, hX.mono (by omega) hB⟩
  refine AF.istore dL_law_2287 (by decide) ?_
  refine AF.aload_n dL_law_2289 rfl ?_
  refine AF.v1 dL_law_2290 kv_L_163 ((X9_thrown_ok hM3)) (by assumption) rfl rfl rfl (Nat.le_of_ble_eq_true rfl) (by decide) rfl ?_
  refine AF.iload dL_law_2293 rfl ?_
  refine AF.icmp_eq 2300 dL_law_2295 (by decide) (fun h1 => ?_) (fun h1 => ?_)
  · refine AF.iload dL_law_2300 rfl ?_
    refine AF.if_ne 2317 dL_law_2302 (by decide) (fun h2 => ?_) (fun h2 => ?_)
    · refine AF.goto 2880 dL_law_2317 (by decide) ?_
      exact next F _ _ _ _ hLI
    · have h2 : nI (if inB x 0 40 = true then (if (fov X.sg (cl x)).isSome = true then 0 else 2) else 1) = nI 0 := h2
      rw [nI_eq (by omega) (by omega)] at h2
      refine AF.aload_n dL_law_2305 rfl ?_
      refine AF.iconst (nI 0) dL_law_2306 (by decide) ?_
      refine AF.laload 0 dL_law_2307 ho3 rfl (by omega) (by decide) ?_
      rw [hz2 h2]
      refine AF.iload dL_law_2308 rfl ?_
      refine AF.i2l dL_law_2310 ?_
      rw [if_pos h2]
      refine AF.lcmp dL_law_2311 ?_
      rw [lcmp_self]
      refine AF.if_eq 2317 dL_law_2312 (by decide) (fun h3 => ?_) (fun h3 => ?_)
      · refine AF.goto 2880 dL_law_2317 (by decide) ?_
        exact next F _ _ _ _ hLI
      · exact absurd rfl h3
  · exact absurd rfl h1
set_option maxRecDepth 100000 in
set_option maxHeartbeats 2000000 in
theorem LC46_ok (hL : LI G c F X B) (ha : gN G ≤ c) (hs : SCR G b L xs) (hi : i + 4 < L) (hl : L ≤ 2560) (hB : B + 2500 ≤ 2 ^ 21) (l6 l7 l8 : Option Value) (next : ∀ F' X' l6 l7 l8, LI G c F' X' (B + 2500) → AF G mL_law 13 bc bs R F' 2880 [some (.ref b), some (.ref c), some (.ref (c + 131)), some (.ref (c + 140)), some (.ref (c + 141)), some (.int (nI i)), l6, l7, l8] []) : AF G mL_law 13 (bc + 50) (bs + 6964) R F 2320 [some (.ref b), some (.ref c), some (.ref (c + 131)), some (.ref (c + 140)), some (.ref (c + 141)), some (.int (nI i)), l6, l7, l8] [] := by
  obtain ⟨bv, th, f, g, hC, hM, ⟨ho, hod⟩, hbv, hz, hX⟩ := hL
  have hpr : (if X.sg.J.length = 0 then 1 else 0) ≤ 3 := by split <;> omega
  obtain ⟨hn, hf, ⟨c0, -⟩, -⟩ := id hC
  refine AF.less (d' := 13) (bc' := bc + 1) (bs' := bs + 6) ?_ (Nat.le_refl _) (by omega) (by omega)
  refine AF.aload_n dL_law_2320 rfl ?_
  refine AF.aload dL_law_2321 rfl ?_
  refine AF.callSX (bc := bc) (bs := bs) (mc' := 1) (ms' := 6) dL_law_2323 kx_L_320 (L_meanOpening_ok (B := B) hC hX.1 hod (by omega) (by omega) (by omega) (by omega)) rfl rfl (Nat.le_of_ble_eq_true rfl) (by decide) rfl (fun E F9 q => nomatch q.1) (fun v F2 q => ?_)
  obtain ⟨q, bv2, hC2, ⟨x1, x2, x3⟩, f2, hr2, hz2⟩ := q
  cases q
  have hbv2 : bv2 = c + 42 ∨ c + 142 ≤ bv2 := by omega
  have hM2 := hM.kept (F' := F2) (fun q a b => x3 q (by omega) (by omega) (by omega) (by omega))
  have ho2 := (x3 (c + 140) (by omega) (by omega) (by omega) (by omega)).trans ho
  have hod2 := hr2
  obtain ⟨g2, f9, A2, ⟨m0, -⟩, -⟩ := id hM2
  refine AF.istore dL_law_2326 (by decide) ?_
  refine AF.aload_n dL_law_2328 rfl ?_
  refine AF.vw dL_law_2329 kv_L_323 (X9_meanOpening_ok hM2 (by omega) hX.1) (by assumption) rfl rfl rfl (Nat.le_of_ble_eq_true rfl) (by decide) rfl (fun E F9 q => nomatch q.1) (fun v F q => ?_)
  obtain ⟨q, hM3, q3⟩ := q
  cases q
  have hC3 := hC2.kept (fun q a b => q3.2 q (by omega)) (q3.2 bv2 (by omega)) (Nat.le_of_eq q3.1.symm)
  have ho3 := (q3.2 (c + 140) (by omega)).trans ho2
  have hod3 := (q3.2 (c + 141) (by omega)).trans hod2
  clear m0
  obtain ⟨g3, f9, A3, ⟨m0, -⟩, -⟩ := id hM3
  have hLI : LI G c F X (B + 2500) := ⟨bv2, _, f, f2, hC3, hM3, ⟨ho3, hod3⟩, hbv2, by have := q3.1; omega, hX.mono (by omega) hB⟩
  refine AF.dstore dL_law_2332 (by decide) ?_
  refine AF.aload_n dL_law_2334 rfl ?_
  refine AF.v1 dL_law_2335 kv_L_163 ((X9_thrown_ok hM3)) (by assumption) rfl rfl rfl (Nat.le_of_ble_eq_true rfl) (by decide) rfl ?_
  refine AF.iload dL_law_2338 rfl ?_
  refine AF.icmp_eq 2345 dL_law_2340 (by decide) (fun h1 => ?_) (fun h1 => ?_)
  · refine AF.iload dL_law_2345 rfl ?_
    refine AF.if_ne 2382 dL_law_2347 (by decide) (fun h2 => ?_) (fun h2 => ?_)
    · refine AF.goto 2880 dL_law_2382 (by decide) ?_
      exact next F _ _ _ _ hLI
    · have h2 : nI (if X.sg.J.length = 0 then 1 else 0) = nI 0 := h2
      rw [nI_eq (by omega) (by omega)] at h2
      refine AF.aload dL_law_2350 rfl ?_
      refine AF.iconst (nI 0) dL_law_2352 (by decide) ?_
      refine AF.daload 0 dL_law_2353 hod3 rfl (by omega) (by decide) ?_
      rw [hz2 h2]
      have hq := flt_d X.sg.J.length (by have := hX.1.2.2.1; omega) (dem X.sg.J) (by have := dem_le hX.1.1.1 hX.1.2.2.1; omega) (by by_cases z : X.sg.J.length = 0; rw [if_pos z] at h2; cases h2; omega)
      refine AF.dload dL_law_2354 rfl ?_
      rw [if_pos h2]
      refine AF.dcmp dL_law_2356 ?_
      rw [hq.2]
      refine AF.if_eq 2382 dL_law_2357 (by decide) (fun h3 => ?_) (fun h3 => ?_)
      · refine AF.goto 2880 dL_law_2382 (by decide) ?_
        exact next F _ _ _ _ hLI
      · exact absurd rfl h3
  · exact absurd rfl h1
set_option maxRecDepth 100000 in
set_option maxHeartbeats 2000000 in
theorem LC47_ok (hL : LI G c F X B) (ha : gN G ≤ c) (hs : SCR G b L xs) (hi : i + 4 < L) (hl : L ≤ 2560) (hB : B + 2500 ≤ 2 ^ 21) (l6 l7 l8 : Option Value) (next : ∀ F' X' l6 l7 l8, LI G c F' X' (B + 2500) → AF G mL_law 13 bc bs R F' 2880 [some (.ref b), some (.ref c), some (.ref (c + 131)), some (.ref (c + 140)), some (.ref (c + 141)), some (.int (nI i)), l6, l7, l8] []) : AF G mL_law 13 (bc + 50) (bs + 6964) R F 2385 [some (.ref b), some (.ref c), some (.ref (c + 131)), some (.ref (c + 140)), some (.ref (c + 141)), some (.int (nI i)), l6, l7, l8] [] := by
  obtain ⟨bv, th, f, g, hC, hM, ⟨ho, hod⟩, hbv, hz, hX⟩ := hL
  have hpr : (if dem X.sg.J = 0 then 1 else 0) ≤ 3 := by split <;> omega
  obtain ⟨hn, hf, ⟨c0, -⟩, -⟩ := id hC
  refine AF.less (d' := 13) (bc' := bc + 1) (bs' := bs + 6) ?_ (Nat.le_refl _) (by omega) (by omega)
  refine AF.aload_n dL_law_2385 rfl ?_
  refine AF.aload dL_law_2386 rfl ?_
  refine AF.callSX (bc := bc) (bs := bs) (mc' := 1) (ms' := 6) dL_law_2388 kx_L_324 (L_supplyFraction_ok (B := B) hC hX.1 hod (by omega) (by omega) (by omega) (by omega)) rfl rfl (Nat.le_of_ble_eq_true rfl) (by decide) rfl (fun E F9 q => nomatch q.1) (fun v F2 q => ?_)
  obtain ⟨q, bv2, hC2, ⟨x1, x2, x3⟩, f2, hr2, hz2⟩ := q
  cases q
  have hbv2 : bv2 = c + 42 ∨ c + 142 ≤ bv2 := by omega
  have hM2 := hM.kept (F' := F2) (fun q a b => x3 q (by omega) (by omega) (by omega) (by omega))
  have ho2 := (x3 (c + 140) (by omega) (by omega) (by omega) (by omega)).trans ho
  have hod2 := hr2
  obtain ⟨g2, f9, A2, ⟨m0, -⟩, -⟩ := id hM2
  refine AF.istore dL_law_2391 (by decide) ?_
  refine AF.aload_n dL_law_2393 rfl ?_
  refine AF.vw dL_law_2394 kv_L_326 (X9_supplyFraction_ok hM2 (by omega) hX.1) (by assumption) rfl rfl rfl (Nat.le_of_ble_eq_true rfl) (by decide) rfl (fun E F9 q => nomatch q.1) (fun v F q => ?_)
  obtain ⟨q, hM3, q3⟩ := q
  cases q
  have hC3 := hC2.kept (fun q a b => q3.2 q (by omega)) (q3.2 bv2 (by omega)) (Nat.le_of_eq q3.1.symm)
  have ho3 := (q3.2 (c + 140) (by omega)).trans ho2
  have hod3 := (q3.2 (c + 141) (by omega)).trans hod2
  clear m0
  obtain ⟨g3, f9, A3, ⟨m0, -⟩, -⟩ := id hM3
  have hLI : LI G c F X (B + 2500) := ⟨bv2, _, f, f2, hC3, hM3, ⟨ho3, hod3⟩, hbv2, by have := q3.1; omega, hX.mono (by omega) hB⟩
  refine AF.fstore dL_law_2397 (by decide) ?_
  refine AF.aload_n dL_law_2399 rfl ?_
  refine AF.v1 dL_law_2400 kv_L_163 ((X9_thrown_ok hM3)) (by assumption) rfl rfl rfl (Nat.le_of_ble_eq_true rfl) (by decide) rfl ?_
  refine AF.iload dL_law_2403 rfl ?_
  refine AF.icmp_eq 2410 dL_law_2405 (by decide) (fun h1 => ?_) (fun h1 => ?_)
  · refine AF.iload dL_law_2410 rfl ?_
    refine AF.if_ne 2448 dL_law_2412 (by decide) (fun h2 => ?_) (fun h2 => ?_)
    · refine AF.goto 2880 dL_law_2448 (by decide) ?_
      exact next F _ _ _ _ hLI
    · have h2 : nI (if dem X.sg.J = 0 then 1 else 0) = nI 0 := h2
      rw [nI_eq (by omega) (by omega)] at h2
      refine AF.aload dL_law_2415 rfl ?_
      refine AF.iconst (nI 0) dL_law_2417 (by decide) ?_
      refine AF.daload 0 dL_law_2418 hod3 rfl (by omega) (by decide) ?_
      rw [hz2 h2]
      have hq := flt_f (dem X.sg.J) (by have := dem_le hX.1.1.1 hX.1.2.2.1; omega) (sup X.sg.J X.sg.cap) (by have := sup_le (J := X.sg.J) (cap := X.sg.cap); omega) (by by_cases z : dem X.sg.J = 0; rw [if_pos z] at h2; cases h2; omega)
      refine AF.fload dL_law_2419 rfl ?_
      rw [if_pos h2]
      refine AF.f2d dL_law_2421 hq.2.1 ?_
      refine AF.dcmp dL_law_2422 ?_
      rw [hq.2.2]
      refine AF.if_eq 2448 dL_law_2423 (by decide) (fun h3 => ?_) (fun h3 => ?_)
      · refine AF.goto 2880 dL_law_2448 (by decide) ?_
        exact next F _ _ _ _ hLI
      · exact absurd rfl h3
  · exact absurd rfl h1
set_option maxRecDepth 100000 in
set_option maxHeartbeats 2000000 in
theorem LC48_ok (hL : LI G c F X B) (ha : gN G ≤ c) (hs : SCR G b L xs) (hi : i + 4 < L) (hl : L ≤ 2560) (hB : B + 2500 ≤ 2 ^ 21) (l6 l7 l8 : Option Value) (next : ∀ F' X' l6 l7 l8, LI G c F' X' (B + 2500) → AF G mL_law 13 bc bs R F' 2880 [some (.ref b), some (.ref c), some (.ref (c + 131)), some (.ref (c + 140)), some (.ref (c + 141)), some (.int (nI i)), l6, l7, l8] []) : AF G mL_law 13 (bc + 50) (bs + 6964) R F 2451 [some (.ref b), some (.ref c), some (.ref (c + 131)), some (.ref (c + 140)), some (.ref (c + 141)), some (.int (nI i)), l6, l7, l8] [] := by
  obtain ⟨bv, th, f, g, hC, hM, ⟨ho, hod⟩, hbv, hz, hX⟩ := hL
  obtain ⟨x, ex⟩ : ∃ z, z = xs (i + 1) := ⟨_, rfl⟩
  have hpr : (if hasB X.sg.Fg.length x = true then 0 else 1) ≤ 3 := by split <;> omega
  obtain ⟨hn, hf, ⟨c0, -⟩, -⟩ := id hC
  refine AF.less (d' := 13) (bc' := bc + 50) (bs' := bs + 6964) ?_ (Nat.le_refl _) (by omega) (by omega)
  refine AF.aload_n dL_law_2451 rfl ?_
  refine AF.aload_n dL_law_2452 rfl ?_
  refine AF.iload dL_law_2453 rfl ?_
  refine AF.iconst (nI 1) dL_law_2455 (by decide) ?_
  refine AF.iadd dL_law_2456 ?_
  rw [nI_add]
  refine AF.ialoadT (v := .int x) (i + 1) dL_law_2457 hs rfl (by omega) (by omega) (congrArg Value.int ex.symm) ?_
  refine AF.aload_n dL_law_2458 rfl ?_
  refine AF.callSX (bc := bc) (bs := bs) (mc' := 50) (ms' := 6964) dL_law_2459 kx_L_327 (L_writeFigure_ok (B := B) hC x ha (by omega) hX.1 ho (by omega) (by omega) (by omega) (by omega)) rfl rfl (Nat.le_of_ble_eq_true rfl) (by decide) rfl (fun E F9 q => nomatch q.1) (fun v F2 q => ?_)
  obtain ⟨q, bv2, hC2, ⟨x1, x2, x3⟩, f2, hr2, hz2⟩ := q
  cases q
  have hbv2 : bv2 = c + 42 ∨ c + 142 ≤ bv2 := by omega
  have hM2 := hM.kept (F' := F2) (fun q a b => x3 q (by omega) (by omega) (by omega) (by omega))
  have ho2 := hr2
  have hod2 := (x3 (c + 141) (by omega) (by omega) (by omega) (by omega)).trans hod
  obtain ⟨g2, f9, A2, ⟨m0, -⟩, -⟩ := id hM2
  refine AF.istore dL_law_2462 (by decide) ?_
  refine AF.aload_n dL_law_2464 rfl ?_
  refine AF.aload_n dL_law_2465 rfl ?_
  refine AF.iload dL_law_2466 rfl ?_
  refine AF.iconst (nI 1) dL_law_2468 (by decide) ?_
  refine AF.iadd dL_law_2469 ?_
  rw [nI_add]
  refine AF.ialoadT (v := .int x) (i + 1) dL_law_2470 hs rfl (by omega) (by omega) (congrArg Value.int ex.symm) ?_
  refine AF.vw dL_law_2471 kv_L_329 (X9_writeFigure_ok hM2 (by omega) hX.1 x) (by assumption) rfl rfl rfl (Nat.le_of_ble_eq_true rfl) (by decide) rfl (fun E F9 q => nomatch q.1) (fun v F q => ?_)
  obtain ⟨q, hM3, q3⟩ := q
  cases q
  have hC3 := hC2.kept (fun q a b => q3.2 q (by omega)) (q3.2 bv2 (by omega)) (Nat.le_of_eq q3.1.symm)
  have ho3 := (q3.2 (c + 140) (by omega)).trans ho2
  have hod3 := (q3.2 (c + 141) (by omega)).trans hod2
  clear m0
  obtain ⟨g3, f9, A3, ⟨m0, -⟩, -⟩ := id hM3
  have hLI : LI G c F (if hasB X.sg.Fg.length x = true then wrX X (cl x) else X) (B + 2500) := ⟨bv2, _, f2, g, hC3, hM3, ⟨ho3, hod3⟩, hbv2, by have := q3.1; omega, (by split; exact (hX.wr (cl x) (hasB_cl (by have := hX.1.2.2.2.1; omega) (by assumption)).1).mono (by omega) hB; exact hX.mono (by omega) hB)⟩
  refine AF.istore dL_law_2474 (by decide) ?_
  refine AF.aload_n dL_law_2476 rfl ?_
  refine AF.v1 dL_law_2477 kv_L_163 ((X9_thrown_ok hM3)) (by assumption) rfl rfl rfl (Nat.le_of_ble_eq_true rfl) (by decide) rfl ?_
  refine AF.iload dL_law_2480 rfl ?_
  refine AF.icmp_eq 2487 dL_law_2482 (by decide) (fun h1 => ?_) (fun h1 => ?_)
  · refine AF.iload dL_law_2487 rfl ?_
    refine AF.if_ne 2504 dL_law_2489 (by decide) (fun h2 => ?_) (fun h2 => ?_)
    · refine AF.goto 2880 dL_law_2504 (by decide) ?_
      exact next F _ _ _ _ hLI
    · have h2 : nI (if hasB X.sg.Fg.length x = true then 0 else 1) = nI 0 := h2
      rw [nI_eq (by omega) (by omega)] at h2
      refine AF.aload_n dL_law_2492 rfl ?_
      refine AF.iconst (nI 0) dL_law_2493 (by decide) ?_
      refine AF.laload 0 dL_law_2494 ho3 rfl (by omega) (by decide) ?_
      rw [hz2 h2]
      refine AF.iload dL_law_2495 rfl ?_
      refine AF.i2l dL_law_2497 ?_
      rw [if_pos h2]
      refine AF.lcmp dL_law_2498 ?_
      rw [lcmp_self]
      refine AF.if_eq 2504 dL_law_2499 (by decide) (fun h3 => ?_) (fun h3 => ?_)
      · refine AF.goto 2880 dL_law_2504 (by decide) ?_
        exact next F _ _ _ _ hLI
      · exact absurd rfl h3
  · exact absurd rfl h1
set_option maxRecDepth 100000 in
set_option maxHeartbeats 2000000 in
theorem LC49_ok (hL : LI G c F X B) (ha : gN G ≤ c) (hs : SCR G b L xs) (hi : i + 4 < L) (hl : L ≤ 2560) (hB : B + 2500 ≤ 2 ^ 21) (l6 l7 l8 : Option Value) (next : ∀ F' X' l6 l7 l8, LI G c F' X' (B + 2500) → AF G mL_law 13 bc bs R F' 2880 [some (.ref b), some (.ref c), some (.ref (c + 131)), some (.ref (c + 140)), some (.ref (c + 141)), some (.int (nI i)), l6, l7, l8] []) : AF G mL_law 13 (bc + 50) (bs + 6964) R F 2507 [some (.ref b), some (.ref c), some (.ref (c + 131)), some (.ref (c + 140)), some (.ref (c + 141)), some (.int (nI i)), l6, l7, l8] [] := by
  obtain ⟨bv, th, f, g, hC, hM, ⟨ho, hod⟩, hbv, hz, hX⟩ := hL
  obtain ⟨x, ex⟩ : ∃ z, z = xs (i + 1) := ⟨_, rfl⟩
  have hpr : (if hasB X.ou.length x = true then 0 else 1) ≤ 3 := by split <;> omega
  obtain ⟨hn, hf, ⟨c0, -⟩, -⟩ := id hC
  refine AF.less (d' := 13) (bc' := bc + 1) (bs' := bs + 6) ?_ (Nat.le_refl _) (by omega) (by omega)
  refine AF.aload_n dL_law_2507 rfl ?_
  refine AF.aload_n dL_law_2508 rfl ?_
  refine AF.iload dL_law_2509 rfl ?_
  refine AF.iconst (nI 1) dL_law_2511 (by decide) ?_
  refine AF.iadd dL_law_2512 ?_
  rw [nI_add]
  refine AF.ialoadT (v := .int x) (i + 1) dL_law_2513 hs rfl (by omega) (by omega) (congrArg Value.int ex.symm) ?_
  refine AF.aload_n dL_law_2514 rfl ?_
  refine AF.callSX (bc := bc) (bs := bs) (mc' := 1) (ms' := 6) dL_law_2515 kx_L_330 (L_outputCharacter_ok (B := B) hC x hX ho (by omega) (by omega) (by omega) (by omega)) rfl rfl (Nat.le_of_ble_eq_true rfl) (by decide) rfl (fun E F9 q => nomatch q.1) (fun v F2 q => ?_)
  obtain ⟨q, bv2, hC2, ⟨x1, x2, x3⟩, f2, hr2, hz2⟩ := q
  cases q
  have hbv2 : bv2 = c + 42 ∨ c + 142 ≤ bv2 := by omega
  have hM2 := hM.kept (F' := F2) (fun q a b => x3 q (by omega) (by omega) (by omega) (by omega))
  have ho2 := hr2
  have hod2 := (x3 (c + 141) (by omega) (by omega) (by omega) (by omega)).trans hod
  obtain ⟨g2, f9, A2, ⟨m0, -⟩, -⟩ := id hM2
  refine AF.istore dL_law_2518 (by decide) ?_
  refine AF.aload_n dL_law_2520 rfl ?_
  refine AF.aload_n dL_law_2521 rfl ?_
  refine AF.iload dL_law_2522 rfl ?_
  refine AF.iconst (nI 1) dL_law_2524 (by decide) ?_
  refine AF.iadd dL_law_2525 ?_
  rw [nI_add]
  refine AF.ialoadT (v := .int x) (i + 1) dL_law_2526 hs rfl (by omega) (by omega) (congrArg Value.int ex.symm) ?_
  refine AF.vw dL_law_2527 kv_L_332 (X9_outputCharacter_ok hM2 (by omega) hX x) (by assumption) rfl rfl rfl (Nat.le_of_ble_eq_true rfl) (by decide) rfl (fun E F9 q => nomatch q.1) (fun v F q => ?_)
  obtain ⟨q, hM3, q3⟩ := q
  cases q
  have hC3 := hC2.kept (fun q a b => q3.2 q (by omega)) (q3.2 bv2 (by omega)) (Nat.le_of_eq q3.1.symm)
  have ho3 := (q3.2 (c + 140) (by omega)).trans ho2
  have hod3 := (q3.2 (c + 141) (by omega)).trans hod2
  clear m0
  obtain ⟨g3, f9, A3, ⟨m0, -⟩, -⟩ := id hM3
  have hLI : LI G c F X (B + 2500) := ⟨bv2, _, f2, g, hC3, hM3, ⟨ho3, hod3⟩, hbv2, by have := q3.1; omega, hX.mono (by omega) hB⟩
  refine AF.istore dL_law_2530 (by decide) ?_
  refine AF.aload_n dL_law_2532 rfl ?_
  refine AF.v1 dL_law_2533 kv_L_163 ((X9_thrown_ok hM3)) (by assumption) rfl rfl rfl (Nat.le_of_ble_eq_true rfl) (by decide) rfl ?_
  refine AF.iload dL_law_2536 rfl ?_
  refine AF.icmp_eq 2543 dL_law_2538 (by decide) (fun h1 => ?_) (fun h1 => ?_)
  · refine AF.iload dL_law_2543 rfl ?_
    refine AF.if_ne 2560 dL_law_2545 (by decide) (fun h2 => ?_) (fun h2 => ?_)
    · refine AF.goto 2880 dL_law_2560 (by decide) ?_
      exact next F _ _ _ _ hLI
    · have h2 : nI (if hasB X.ou.length x = true then 0 else 1) = nI 0 := h2
      rw [nI_eq (by omega) (by omega)] at h2
      refine AF.aload_n dL_law_2548 rfl ?_
      refine AF.iconst (nI 0) dL_law_2549 (by decide) ?_
      refine AF.laload 0 dL_law_2550 ho3 rfl (by omega) (by decide) ?_
      rw [hz2 h2]
      refine AF.iload dL_law_2551 rfl ?_
      refine AF.i2l dL_law_2553 ?_
      rw [if_pos h2]
      refine AF.lcmp dL_law_2554 ?_
      rw [lcmp_self]
      refine AF.if_eq 2560 dL_law_2555 (by decide) (fun h3 => ?_) (fun h3 => ?_)
      · refine AF.goto 2880 dL_law_2560 (by decide) ?_
        exact next F _ _ _ _ hLI
      · exact absurd rfl h3
  · exact absurd rfl h1
set_option maxRecDepth 100000 in
set_option maxHeartbeats 2000000 in
theorem LC50_ok (hL : LI G c F X B) (ha : gN G ≤ c) (hs : SCR G b L xs) (hi : i + 4 < L) (hl : L ≤ 2560) (hB : B + 2500 ≤ 2 ^ 21) (l6 l7 l8 : Option Value) (next : ∀ F' X' l6 l7 l8, LI G c F' X' (B + 2500) → AF G mL_law 13 bc bs R F' 2880 [some (.ref b), some (.ref c), some (.ref (c + 131)), some (.ref (c + 140)), some (.ref (c + 141)), some (.int (nI i)), l6, l7, l8] []) : AF G mL_law 13 (bc + 50) (bs + 6964) R F 2563 [some (.ref b), some (.ref c), some (.ref (c + 131)), some (.ref (c + 140)), some (.ref (c + 141)), some (.int (nI i)), l6, l7, l8] [] := by
  obtain ⟨bv, th, f, g, hC, hM, ⟨ho, hod⟩, hbv, hz, hX⟩ := hL
  obtain ⟨hn, hf, ⟨c0, -⟩, -⟩ := id hC
  refine AF.less (d' := 13) (bc' := bc) (bs' := bs) ?_ (Nat.le_refl _) (by omega) (by omega)
  refine AF.aload_n dL_law_2563 rfl ?_
  refine AF.vw dL_law_2564 kv_L_333 (X8_isConsistent_ok hC ha hX.1 (by omega)) c0 rfl rfl rfl (Nat.le_of_ble_eq_true rfl) (by decide) rfl (fun E F9 q => absurd rfl (rx_x q.1).1) (fun v F2 q => ?_)
  obtain ⟨q, bv2, hC2, x1, x2, x3⟩ := q
  obtain ⟨-, q⟩ := rx_n q
  cases q
  have hbv2 : bv2 = c + 42 ∨ c + 142 ≤ bv2 := by omega
  have hM2 := hM.kept (F' := F2) (fun q a b => x3 q (by omega) (by omega) (by omega))
  have ho2 := (x3 (c + 140) (by omega) (by omega) (by omega)).trans ho
  have hod2 := (x3 (c + 141) (by omega) (by omega) (by omega)).trans hod
  obtain ⟨g2, f9, A2, ⟨m0, -⟩, -⟩ := id hM2
  refine AF.aload_n dL_law_2567 rfl ?_
  refine AF.vw dL_law_2568 kv_L_337 (X9_isConsistent_ok hM2 (by omega)) (by assumption) rfl rfl rfl (Nat.le_of_ble_eq_true rfl) (by decide) rfl (fun E F9 q => nomatch q.1) (fun v F q => ?_)
  obtain ⟨q, hM3, q3⟩ := q
  cases q
  have hC3 := hC2.kept (fun q a b => q3.2 q (by omega)) (q3.2 bv2 (by omega)) (Nat.le_of_eq q3.1.symm)
  have ho3 := (q3.2 (c + 140) (by omega)).trans ho2
  have hod3 := (q3.2 (c + 141) (by omega)).trans hod2
  have hLI : LI G c F _ (B + 2500) := ⟨bv2, _, f, g, hC3, hM3, ⟨ho3, hod3⟩, hbv2, by have := q3.1; omega, hX.mono (by omega) hB⟩
  refine AF.icmp_eq 2880 dL_law_2571 (by decide) (fun h1 => ?_) (fun h1 => ?_)
  · exact next F _ _ _ _ hLI
  · exact absurd rfl h1
set_option maxRecDepth 100000 in
set_option maxHeartbeats 2000000 in
theorem LC51_ok (hL : LI G c F X B) (ha : gN G ≤ c) (hs : SCR G b L xs) (hi : i + 4 < L) (hl : L ≤ 2560) (hB : B + 2500 ≤ 2 ^ 21) (l6 l7 l8 : Option Value) (next : ∀ F' X' l6 l7 l8, LI G c F' X' (B + 2500) → AF G mL_law 13 bc bs R F' 2880 [some (.ref b), some (.ref c), some (.ref (c + 131)), some (.ref (c + 140)), some (.ref (c + 141)), some (.int (nI i)), l6, l7, l8] []) : AF G mL_law 13 (bc + 50) (bs + 6964) R F 2576 [some (.ref b), some (.ref c), some (.ref (c + 131)), some (.ref (c + 140)), some (.ref (c + 141)), some (.int (nI i)), l6, l7, l8] [] := by
  obtain ⟨bv, th, f, g, hC, hM, ⟨ho, hod⟩, hbv, hz, hX⟩ := hL
  obtain ⟨w, ew⟩ : ∃ w, w = xs (i + 1) := ⟨_, rfl⟩
  obtain ⟨x, ec⟩ : ∃ x, x = (w.toUInt32 % 65536).toInt32 := ⟨_, rfl⟩
  have hpr : (if X.tx.length = 60 then 1 else 0) ≤ 3 := by split <;> omega
  obtain ⟨hn, hf, ⟨c0, -⟩, -⟩ := id hC
  refine AF.less (d' := 13) (bc' := bc + 1) (bs' := bs + 6) ?_ (Nat.le_refl _) (by omega) (by omega)
  refine AF.aload_n dL_law_2576 rfl ?_
  refine AF.aload_n dL_law_2577 rfl ?_
  refine AF.iload dL_law_2578 rfl ?_
  refine AF.iconst (nI 1) dL_law_2580 (by decide) ?_
  refine AF.iadd dL_law_2581 ?_
  rw [nI_add]
  refine AF.ialoadT (v := .int w) (i + 1) dL_law_2582 hs rfl (by omega) (by omega) (congrArg Value.int ew.symm) ?_
  refine AF.i2c dL_law_2583 ?_
  rw [← ec]
  refine AF.aload_n dL_law_2584 rfl ?_
  refine AF.callSX (bc := bc) (bs := bs) (mc' := 1) (ms' := 6) dL_law_2585 kx_L_338 (L_feed_ok (B := B) hC x ha (by rw [ec]; exact pk_vc _) ho (by omega) (by omega) (by omega) (by omega)) rfl rfl (Nat.le_of_ble_eq_true rfl) (by decide) rfl (fun E F9 q => nomatch q.1) (fun v F2 q => ?_)
  obtain ⟨q, bv2, hC2, ⟨x1, x2, x3⟩, f2, hr2, hz2⟩ := q
  cases q
  have hbv2 : bv2 = c + 42 ∨ c + 142 ≤ bv2 := by omega
  have hM2 := hM.kept (F' := F2) (fun q a b => x3 q (by omega) (by omega) (by omega) (by omega))
  have ho2 := hr2
  have hod2 := (x3 (c + 141) (by omega) (by omega) (by omega) (by omega)).trans hod
  obtain ⟨g2, f9, A2, ⟨m0, -⟩, -⟩ := id hM2
  refine AF.istore dL_law_2588 (by decide) ?_
  refine AF.aload_n dL_law_2590 rfl ?_
  refine AF.aload_n dL_law_2591 rfl ?_
  refine AF.iload dL_law_2592 rfl ?_
  refine AF.iconst (nI 1) dL_law_2594 (by decide) ?_
  refine AF.iadd dL_law_2595 ?_
  rw [nI_add]
  refine AF.ialoadT (v := .int w) (i + 1) dL_law_2596 hs rfl (by omega) (by omega) (congrArg Value.int ew.symm) ?_
  refine AF.i2c dL_law_2597 ?_
  rw [← ec]
  refine AF.vw dL_law_2598 kv_L_341 (X9_feed_ok hM2 (by omega) x) (by assumption) rfl rfl rfl (Nat.le_of_ble_eq_true rfl) (by decide) rfl (fun E F9 q => nomatch q.1) (fun v F q => ?_)
  obtain ⟨q, hM3, q3⟩ := q
  cases q
  have hC3 := hC2.kept (fun q a b => q3.2 q (by omega)) (q3.2 bv2 (by omega)) (Nat.le_of_eq q3.1.symm)
  have ho3 := (q3.2 (c + 140) (by omega)).trans ho2
  have hod3 := (q3.2 (c + 141) (by omega)).trans hod2
  clear m0
  obtain ⟨g3, f9, A3, ⟨m0, -⟩, -⟩ := id hM3
  have hLI : LI G c F (fdX X x) (B + 2500) := ⟨bv2, _, f2, g, hC3, hM3, ⟨ho3, hod3⟩, hbv2, by have := q3.1; omega, (hX.fd x (by rw [ec]; exact ch_lt _)).mono (by omega) hB⟩
  refine AF.istore dL_law_2601 (by decide) ?_
  refine AF.aload_n dL_law_2603 rfl ?_
  refine AF.v1 dL_law_2604 kv_L_163 ((X9_thrown_ok hM3)) (by assumption) rfl rfl rfl (Nat.le_of_ble_eq_true rfl) (by decide) rfl ?_
  refine AF.iload dL_law_2607 rfl ?_
  refine AF.icmp_eq 2614 dL_law_2609 (by decide) (fun h1 => ?_) (fun h1 => ?_)
  · refine AF.iload dL_law_2614 rfl ?_
    refine AF.if_ne 2631 dL_law_2616 (by decide) (fun h2 => ?_) (fun h2 => ?_)
    · refine AF.goto 2880 dL_law_2631 (by decide) ?_
      exact next F _ _ _ _ hLI
    · have h2 : nI (if X.tx.length = 60 then 1 else 0) = nI 0 := h2
      rw [nI_eq (by omega) (by omega)] at h2
      refine AF.aload_n dL_law_2619 rfl ?_
      refine AF.iconst (nI 0) dL_law_2620 (by decide) ?_
      refine AF.laload 0 dL_law_2621 ho3 rfl (by omega) (by decide) ?_
      rw [hz2 h2]
      refine AF.iload dL_law_2622 rfl ?_
      refine AF.i2l dL_law_2624 ?_
      rw [if_pos h2]
      refine AF.lcmp dL_law_2625 ?_
      rw [lcmp_self]
      refine AF.if_eq 2631 dL_law_2626 (by decide) (fun h3 => ?_) (fun h3 => ?_)
      · refine AF.goto 2880 dL_law_2631 (by decide) ?_
        exact next F _ _ _ _ hLI
      · exact absurd rfl h3
  · exact absurd rfl h1
set_option maxRecDepth 100000 in
set_option maxHeartbeats 2000000 in
theorem LC52_ok (hL : LI G c F X B) (ha : gN G ≤ c) (hs : SCR G b L xs) (hi : i + 4 < L) (hl : L ≤ 2560) (hB : B + 2500 ≤ 2 ^ 21) (l6 l7 l8 : Option Value) (next : ∀ F' X' l6 l7 l8, LI G c F' X' (B + 2500) → AF G mL_law 13 bc bs R F' 2880 [some (.ref b), some (.ref c), some (.ref (c + 131)), some (.ref (c + 140)), some (.ref (c + 141)), some (.int (nI i)), l6, l7, l8] []) : AF G mL_law 13 (bc + 50) (bs + 6964) R F 2634 [some (.ref b), some (.ref c), some (.ref (c + 131)), some (.ref (c + 140)), some (.ref (c + 141)), some (.int (nI i)), l6, l7, l8] [] := by
  obtain ⟨bv, th, f, g, hC, hM, ⟨ho, hod⟩, hbv, hz, hX⟩ := hL
  have hpr : (exC X) ≤ 3 := by have := exC_le (X := X); omega
  obtain ⟨hn, hf, ⟨c0, -⟩, -⟩ := id hC
  refine AF.less (d' := 13) (bc' := bc + 1) (bs' := bs + 6) ?_ (Nat.le_refl _) (by omega) (by omega)
  refine AF.aload_n dL_law_2634 rfl ?_
  refine AF.aload_n dL_law_2635 rfl ?_
  refine AF.callSX (bc := bc) (bs := bs) (mc' := 1) (ms' := 6) dL_law_2636 kx_L_342 (L_execute_ok (B := B) hC ha hX.1 (by omega) ho (by omega) (by omega) (by omega) (by omega)) rfl rfl (Nat.le_of_ble_eq_true rfl) (by decide) rfl (fun E F9 q => nomatch q.1) (fun v F2 q => ?_)
  obtain ⟨q, bv2, hC2, ⟨x1, x2, x3⟩, f2, hr2, hz2⟩ := q
  cases q
  have hbv2 : bv2 = c + 42 ∨ c + 142 ≤ bv2 := by omega
  have hM2 := hM.kept (F' := F2) (fun q a b => x3 q (by omega) (by omega) (by omega) (by omega))
  have ho2 := hr2
  have hod2 := (x3 (c + 141) (by omega) (by omega) (by omega) (by omega)).trans hod
  obtain ⟨g2, f9, A2, ⟨m0, -⟩, -⟩ := id hM2
  refine AF.istore dL_law_2639 (by decide) ?_
  refine AF.aload_n dL_law_2641 rfl ?_
  refine AF.vw dL_law_2642 kv_L_344 (X9_execute_ok hM2 (by omega) hX.1 (by omega)) (by assumption) rfl rfl rfl (Nat.le_of_ble_eq_true rfl) (by decide) rfl (fun E F9 q => nomatch q.1) (fun v F q => ?_)
  obtain ⟨q, hM3, q3⟩ := q
  cases q
  have hC3 := hC2.kept (fun q a b => q3.2 q (by omega)) (q3.2 bv2 (by omega)) (Nat.le_of_eq q3.1.symm)
  have ho3 := (q3.2 (c + 140) (by omega)).trans ho2
  have hod3 := (q3.2 (c + 141) (by omega)).trans hod2
  clear m0
  obtain ⟨g3, f9, A3, ⟨m0, -⟩, -⟩ := id hM3
  have hLI : LI G c F (exX X) (B + 2500) := ⟨bv2, _, f2, g, hC3, hM3, ⟨ho3, hod3⟩, hbv2, by have := q3.1; omega, (hX.ex (by omega)).mono (by omega) hB⟩
  refine AF.istore dL_law_2645 (by decide) ?_
  refine AF.aload_n dL_law_2647 rfl ?_
  refine AF.v1 dL_law_2648 kv_L_163 ((X9_thrown_ok hM3)) (by assumption) rfl rfl rfl (Nat.le_of_ble_eq_true rfl) (by decide) rfl ?_
  refine AF.iload dL_law_2651 rfl ?_
  refine AF.icmp_eq 2658 dL_law_2653 (by decide) (fun h1 => ?_) (fun h1 => ?_)
  · refine AF.iload dL_law_2658 rfl ?_
    refine AF.if_ne 2675 dL_law_2660 (by decide) (fun h2 => ?_) (fun h2 => ?_)
    · refine AF.goto 2880 dL_law_2675 (by decide) ?_
      exact next F _ _ _ _ hLI
    · have h2 : nI (exC X) = nI 0 := h2
      rw [nI_eq (by omega) (by omega)] at h2
      refine AF.aload_n dL_law_2663 rfl ?_
      refine AF.iconst (nI 0) dL_law_2664 (by decide) ?_
      refine AF.laload 0 dL_law_2665 ho3 rfl (by omega) (by decide) ?_
      rw [hz2 h2]
      refine AF.iload dL_law_2666 rfl ?_
      refine AF.i2l dL_law_2668 ?_
      rw [if_pos h2]
      refine AF.lcmp dL_law_2669 ?_
      rw [lcmp_self]
      refine AF.if_eq 2675 dL_law_2670 (by decide) (fun h3 => ?_) (fun h3 => ?_)
      · refine AF.goto 2880 dL_law_2675 (by decide) ?_
        exact next F _ _ _ _ hLI
      · exact absurd rfl h3
  · exact absurd rfl h1
set_option maxRecDepth 100000 in
set_option maxHeartbeats 2000000 in
theorem LC53_ok (hL : LI G c F X B) (ha : gN G ≤ c) (hs : SCR G b L xs) (hi : i + 4 < L) (hl : L ≤ 2560) (hB : B + 2500 ≤ 2 ^ 21) (l6 l7 l8 : Option Value) (next : ∀ F' X' l6 l7 l8, LI G c F' X' (B + 2500) → AF G mL_law 13 bc bs R F' 2880 [some (.ref b), some (.ref c), some (.ref (c + 131)), some (.ref (c + 140)), some (.ref (c + 141)), some (.int (nI i)), l6, l7, l8] []) : AF G mL_law 13 (bc + 50) (bs + 6964) R F 2678 [some (.ref b), some (.ref c), some (.ref (c + 131)), some (.ref (c + 140)), some (.ref (c + 141)), some (.int (nI i)), l6, l7, l8] [] := by
  obtain ⟨bv, th, f, g, hC, hM, ⟨ho, hod⟩, hbv, hz, hX⟩ := hL
  have hpr : (if X.er = -1 then 1 else 0) ≤ 3 := by split <;> omega
  obtain ⟨hn, hf, ⟨c0, -⟩, -⟩ := id hC
  refine AF.less (d' := 13) (bc' := bc + 1) (bs' := bs + 6) ?_ (Nat.le_refl _) (by omega) (by omega)
  refine AF.aload_n dL_law_2678 rfl ?_
  refine AF.aload_n dL_law_2679 rfl ?_
  refine AF.callSX (bc := bc) (bs := bs) (mc' := 1) (ms' := 6) dL_law_2680 kx_L_345 (L_errorPosition_ok (B := B) hC ho (by omega) (by omega) (by omega) (by omega)) rfl rfl (Nat.le_of_ble_eq_true rfl) (by decide) rfl (fun E F9 q => nomatch q.1) (fun v F2 q => ?_)
  obtain ⟨q, bv2, hC2, ⟨x1, x2, x3⟩, f2, hr2, hz2⟩ := q
  cases q
  have hbv2 : bv2 = c + 42 ∨ c + 142 ≤ bv2 := by omega
  have hM2 := hM.kept (F' := F2) (fun q a b => x3 q (by omega) (by omega) (by omega) (by omega))
  have ho2 := hr2
  have hod2 := (x3 (c + 141) (by omega) (by omega) (by omega) (by omega)).trans hod
  obtain ⟨g2, f9, A2, ⟨m0, -⟩, -⟩ := id hM2
  refine AF.istore dL_law_2683 (by decide) ?_
  refine AF.aload_n dL_law_2685 rfl ?_
  refine AF.vw dL_law_2686 kv_L_347 (X9_errorPosition_ok hM2 (by omega)) (by assumption) rfl rfl rfl (Nat.le_of_ble_eq_true rfl) (by decide) rfl (fun E F9 q => nomatch q.1) (fun v F q => ?_)
  obtain ⟨q, hM3, q3⟩ := q
  cases q
  have hC3 := hC2.kept (fun q a b => q3.2 q (by omega)) (q3.2 bv2 (by omega)) (Nat.le_of_eq q3.1.symm)
  have ho3 := (q3.2 (c + 140) (by omega)).trans ho2
  have hod3 := (q3.2 (c + 141) (by omega)).trans hod2
  clear m0
  obtain ⟨g3, f9, A3, ⟨m0, -⟩, -⟩ := id hM3
  have hLI : LI G c F X (B + 2500) := ⟨bv2, _, f2, g, hC3, hM3, ⟨ho3, hod3⟩, hbv2, by have := q3.1; omega, hX.mono (by omega) hB⟩
  refine AF.istore dL_law_2689 (by decide) ?_
  refine AF.aload_n dL_law_2691 rfl ?_
  refine AF.v1 dL_law_2692 kv_L_163 ((X9_thrown_ok hM3)) (by assumption) rfl rfl rfl (Nat.le_of_ble_eq_true rfl) (by decide) rfl ?_
  refine AF.iload dL_law_2695 rfl ?_
  refine AF.icmp_eq 2702 dL_law_2697 (by decide) (fun h1 => ?_) (fun h1 => ?_)
  · refine AF.iload dL_law_2702 rfl ?_
    refine AF.if_ne 2719 dL_law_2704 (by decide) (fun h2 => ?_) (fun h2 => ?_)
    · refine AF.goto 2880 dL_law_2719 (by decide) ?_
      exact next F _ _ _ _ hLI
    · have h2 : nI (if X.er = -1 then 1 else 0) = nI 0 := h2
      rw [nI_eq (by omega) (by omega)] at h2
      refine AF.aload_n dL_law_2707 rfl ?_
      refine AF.iconst (nI 0) dL_law_2708 (by decide) ?_
      refine AF.laload 0 dL_law_2709 ho3 rfl (by omega) (by decide) ?_
      rw [hz2 h2]
      refine AF.iload dL_law_2710 rfl ?_
      refine AF.i2l dL_law_2712 ?_
      rw [if_pos h2]
      refine AF.lcmp dL_law_2713 ?_
      rw [lcmp_self]
      refine AF.if_eq 2719 dL_law_2714 (by decide) (fun h3 => ?_) (fun h3 => ?_)
      · refine AF.goto 2880 dL_law_2719 (by decide) ?_
        exact next F _ _ _ _ hLI
      · exact absurd rfl h3
  · exact absurd rfl h1
set_option maxRecDepth 100000 in
set_option maxHeartbeats 2000000 in
theorem LC54_ok (hL : LI G c F X B) (ha : gN G ≤ c) (hs : SCR G b L xs) (hi : i + 4 < L) (hl : L ≤ 2560) (hB : B + 2500 ≤ 2 ^ 21) (l6 l7 l8 : Option Value) (next : ∀ F' X' l6 l7 l8, LI G c F' X' (B + 2500) → AF G mL_law 13 bc bs R F' 2880 [some (.ref b), some (.ref c), some (.ref (c + 131)), some (.ref (c + 140)), some (.ref (c + 141)), some (.int (nI i)), l6, l7, l8] []) : AF G mL_law 13 (bc + 50) (bs + 6964) R F 2722 [some (.ref b), some (.ref c), some (.ref (c + 131)), some (.ref (c + 140)), some (.ref (c + 141)), some (.int (nI i)), l6, l7, l8] [] := by
  obtain ⟨bv, th, f, g, hC, hM, ⟨ho, hod⟩, hbv, hz, hX⟩ := hL
  have hpr : (if X.fa = -1 then 1 else 0) ≤ 3 := by split <;> omega
  obtain ⟨hn, hf, ⟨c0, -⟩, -⟩ := id hC
  refine AF.less (d' := 13) (bc' := bc + 1) (bs' := bs + 6) ?_ (Nat.le_refl _) (by omega) (by omega)
  refine AF.aload_n dL_law_2722 rfl ?_
  refine AF.aload_n dL_law_2723 rfl ?_
  refine AF.callSX (bc := bc) (bs := bs) (mc' := 1) (ms' := 6) dL_law_2724 kx_L_348 (L_failedCommand_ok (B := B) hC ho (by omega) (by omega) (by omega) (by omega)) rfl rfl (Nat.le_of_ble_eq_true rfl) (by decide) rfl (fun E F9 q => nomatch q.1) (fun v F2 q => ?_)
  obtain ⟨q, bv2, hC2, ⟨x1, x2, x3⟩, f2, hr2, hz2⟩ := q
  cases q
  have hbv2 : bv2 = c + 42 ∨ c + 142 ≤ bv2 := by omega
  have hM2 := hM.kept (F' := F2) (fun q a b => x3 q (by omega) (by omega) (by omega) (by omega))
  have ho2 := hr2
  have hod2 := (x3 (c + 141) (by omega) (by omega) (by omega) (by omega)).trans hod
  obtain ⟨g2, f9, A2, ⟨m0, -⟩, -⟩ := id hM2
  refine AF.istore dL_law_2727 (by decide) ?_
  refine AF.aload_n dL_law_2729 rfl ?_
  refine AF.vw dL_law_2730 kv_L_350 (X9_failedCommand_ok hM2 (by omega)) (by assumption) rfl rfl rfl (Nat.le_of_ble_eq_true rfl) (by decide) rfl (fun E F9 q => nomatch q.1) (fun v F q => ?_)
  obtain ⟨q, hM3, q3⟩ := q
  cases q
  have hC3 := hC2.kept (fun q a b => q3.2 q (by omega)) (q3.2 bv2 (by omega)) (Nat.le_of_eq q3.1.symm)
  have ho3 := (q3.2 (c + 140) (by omega)).trans ho2
  have hod3 := (q3.2 (c + 141) (by omega)).trans hod2
  clear m0
  obtain ⟨g3, f9, A3, ⟨m0, -⟩, -⟩ := id hM3
  have hLI : LI G c F X (B + 2500) := ⟨bv2, _, f2, g, hC3, hM3, ⟨ho3, hod3⟩, hbv2, by have := q3.1; omega, hX.mono (by omega) hB⟩
  refine AF.istore dL_law_2733 (by decide) ?_
  refine AF.aload_n dL_law_2735 rfl ?_
  refine AF.v1 dL_law_2736 kv_L_163 ((X9_thrown_ok hM3)) (by assumption) rfl rfl rfl (Nat.le_of_ble_eq_true rfl) (by decide) rfl ?_
  refine AF.iload dL_law_2739 rfl ?_
  refine AF.icmp_eq 2746 dL_law_2741 (by decide) (fun h1 => ?_) (fun h1 => ?_)
  · refine AF.iload dL_law_2746 rfl ?_
    refine AF.if_ne 2763 dL_law_2748 (by decide) (fun h2 => ?_) (fun h2 => ?_)
    · refine AF.goto 2880 dL_law_2763 (by decide) ?_
      exact next F _ _ _ _ hLI
    · have h2 : nI (if X.fa = -1 then 1 else 0) = nI 0 := h2
      rw [nI_eq (by omega) (by omega)] at h2
      refine AF.aload_n dL_law_2751 rfl ?_
      refine AF.iconst (nI 0) dL_law_2752 (by decide) ?_
      refine AF.laload 0 dL_law_2753 ho3 rfl (by omega) (by decide) ?_
      rw [hz2 h2]
      refine AF.iload dL_law_2754 rfl ?_
      refine AF.i2l dL_law_2756 ?_
      rw [if_pos h2]
      refine AF.lcmp dL_law_2757 ?_
      rw [lcmp_self]
      refine AF.if_eq 2763 dL_law_2758 (by decide) (fun h3 => ?_) (fun h3 => ?_)
      · refine AF.goto 2880 dL_law_2763 (by decide) ?_
        exact next F _ _ _ _ hLI
      · exact absurd rfl h3
  · exact absurd rfl h1
set_option maxRecDepth 100000 in
set_option maxHeartbeats 2000000 in
theorem LC55_ok (hL : LI G c F X B) (ha : gN G ≤ c) (hs : SCR G b L xs) (hi : i + 4 < L) (hl : L ≤ 2560) (hB : B + 2500 ≤ 2 ^ 21) (l6 l7 l8 : Option Value) (next : ∀ F' X' l6 l7 l8, LI G c F' X' (B + 2500) → AF G mL_law 13 bc bs R F' 2880 [some (.ref b), some (.ref c), some (.ref (c + 131)), some (.ref (c + 140)), some (.ref (c + 141)), some (.int (nI i)), l6, l7, l8] []) : AF G mL_law 13 (bc + 50) (bs + 6964) R F 2766 [some (.ref b), some (.ref c), some (.ref (c + 131)), some (.ref (c + 140)), some (.ref (c + 141)), some (.int (nI i)), l6, l7, l8] [] := by
  obtain ⟨bv, th, f, g, hC, hM, ⟨ho, hod⟩, hbv, hz, hX⟩ := hL
  have hpr : (if X.hs.length = 0 then 1 else 0) ≤ 3 := by split <;> omega
  obtain ⟨hn, hf, ⟨c0, -⟩, -⟩ := id hC
  refine AF.less (d' := 13) (bc' := bc + 1) (bs' := bs + 6) ?_ (Nat.le_refl _) (by omega) (by omega)
  refine AF.aload_n dL_law_2766 rfl ?_
  refine AF.aload_n dL_law_2767 rfl ?_
  refine AF.callSX (bc := bc) (bs := bs) (mc' := 1) (ms' := 6) dL_law_2768 kx_L_351 (L_undo_ok (B := B) hC ha ho (by omega) (by omega) (by omega) (by omega)) rfl rfl (Nat.le_of_ble_eq_true rfl) (by decide) rfl (fun E F9 q => nomatch q.1) (fun v F2 q => ?_)
  obtain ⟨q, bv2, hC2, ⟨x1, x2, x3⟩, f2, hr2, hz2⟩ := q
  cases q
  have hbv2 : bv2 = c + 42 ∨ c + 142 ≤ bv2 := by omega
  have hM2 := hM.kept (F' := F2) (fun q a b => x3 q (by omega) (by omega) (by omega) (by omega))
  have ho2 := hr2
  have hod2 := (x3 (c + 141) (by omega) (by omega) (by omega) (by omega)).trans hod
  obtain ⟨g2, f9, A2, ⟨m0, -⟩, -⟩ := id hM2
  refine AF.istore dL_law_2771 (by decide) ?_
  refine AF.aload_n dL_law_2773 rfl ?_
  refine AF.vw dL_law_2774 kv_L_353 (X9_undo_ok hM2 (by omega)) (by assumption) rfl rfl rfl (Nat.le_of_ble_eq_true rfl) (by decide) rfl (fun E F9 q => nomatch q.1) (fun v F q => ?_)
  obtain ⟨q, hM3, q3⟩ := q
  cases q
  have hC3 := hC2.kept (fun q a b => q3.2 q (by omega)) (q3.2 bv2 (by omega)) (Nat.le_of_eq q3.1.symm)
  have ho3 := (q3.2 (c + 140) (by omega)).trans ho2
  have hod3 := (q3.2 (c + 141) (by omega)).trans hod2
  clear m0
  obtain ⟨g3, f9, A3, ⟨m0, -⟩, -⟩ := id hM3
  have hLI : LI G c F (unX X) (B + 2500) := ⟨bv2, _, f2, g, hC3, hM3, ⟨ho3, hod3⟩, hbv2, by have := q3.1; omega, hX.un.mono (by omega) hB⟩
  refine AF.istore dL_law_2777 (by decide) ?_
  refine AF.aload_n dL_law_2779 rfl ?_
  refine AF.v1 dL_law_2780 kv_L_163 ((X9_thrown_ok hM3)) (by assumption) rfl rfl rfl (Nat.le_of_ble_eq_true rfl) (by decide) rfl ?_
  refine AF.iload dL_law_2783 rfl ?_
  refine AF.icmp_eq 2790 dL_law_2785 (by decide) (fun h1 => ?_) (fun h1 => ?_)
  · refine AF.iload dL_law_2790 rfl ?_
    refine AF.if_ne 2807 dL_law_2792 (by decide) (fun h2 => ?_) (fun h2 => ?_)
    · refine AF.goto 2880 dL_law_2807 (by decide) ?_
      exact next F _ _ _ _ hLI
    · have h2 : nI (if X.hs.length = 0 then 1 else 0) = nI 0 := h2
      rw [nI_eq (by omega) (by omega)] at h2
      refine AF.aload_n dL_law_2795 rfl ?_
      refine AF.iconst (nI 0) dL_law_2796 (by decide) ?_
      refine AF.laload 0 dL_law_2797 ho3 rfl (by omega) (by decide) ?_
      rw [hz2 h2]
      refine AF.iload dL_law_2798 rfl ?_
      refine AF.i2l dL_law_2800 ?_
      rw [if_pos h2]
      refine AF.lcmp dL_law_2801 ?_
      rw [lcmp_self]
      refine AF.if_eq 2807 dL_law_2802 (by decide) (fun h3 => ?_) (fun h3 => ?_)
      · refine AF.goto 2880 dL_law_2807 (by decide) ?_
        exact next F _ _ _ _ hLI
      · exact absurd rfl h3
  · exact absurd rfl h1
set_option maxRecDepth 100000 in
set_option maxHeartbeats 2000000 in
theorem LC56_ok (hL : LI G c F X B) (ha : gN G ≤ c) (hs : SCR G b L xs) (hi : i + 4 < L) (hl : L ≤ 2560) (hB : B + 2500 ≤ 2 ^ 21) (l6 l7 l8 : Option Value) (next : ∀ F' X' l6 l7 l8, LI G c F' X' (B + 2500) → AF G mL_law 13 bc bs R F' 2880 [some (.ref b), some (.ref c), some (.ref (c + 131)), some (.ref (c + 140)), some (.ref (c + 141)), some (.int (nI i)), l6, l7, l8] []) : AF G mL_law 13 (bc + 50) (bs + 6964) R F 2810 [some (.ref b), some (.ref c), some (.ref (c + 131)), some (.ref (c + 140)), some (.ref (c + 141)), some (.int (nI i)), l6, l7, l8] [] := by
  obtain ⟨bv, th, f, g, hC, hM, ⟨ho, hod⟩, hbv, hz, hX⟩ := hL
  obtain ⟨hn, hf, ⟨c0, -⟩, -⟩ := id hC
  refine AF.less (d' := 13) (bc' := bc) (bs' := bs) ?_ (Nat.le_refl _) (by omega) (by omega)
  refine AF.aload_n dL_law_2810 rfl ?_
  refine AF.vw dL_law_2811 kv_L_354 (X8_undoCount_ok hC) c0 rfl rfl rfl (Nat.le_of_ble_eq_true rfl) (by decide) rfl (fun E F9 q => absurd rfl (rx_x q.1).1) (fun v F2 q => ?_)
  obtain ⟨q, bv2, hC2, x1, x2, x3⟩ := q
  obtain ⟨-, q⟩ := rx_n q
  cases q
  have hbv2 : bv2 = c + 42 ∨ c + 142 ≤ bv2 := by omega
  have hM2 := hM.kept (F' := F2) (fun q a b => x3 q (by omega) (by omega) (by omega))
  have ho2 := (x3 (c + 140) (by omega) (by omega) (by omega)).trans ho
  have hod2 := (x3 (c + 141) (by omega) (by omega) (by omega)).trans hod
  obtain ⟨g2, f9, A2, ⟨m0, -⟩, -⟩ := id hM2
  refine AF.aload_n dL_law_2814 rfl ?_
  refine AF.vw dL_law_2815 kv_L_357 (X9_undoCount_ok hM2 (by omega)) (by assumption) rfl rfl rfl (Nat.le_of_ble_eq_true rfl) (by decide) rfl (fun E F9 q => nomatch q.1) (fun v F q => ?_)
  obtain ⟨q, hM3, q3⟩ := q
  cases q
  have hC3 := hC2.kept (fun q a b => q3.2 q (by omega)) (q3.2 bv2 (by omega)) (Nat.le_of_eq q3.1.symm)
  have ho3 := (q3.2 (c + 140) (by omega)).trans ho2
  have hod3 := (q3.2 (c + 141) (by omega)).trans hod2
  have hLI : LI G c F _ (B + 2500) := ⟨bv2, _, f, g, hC3, hM3, ⟨ho3, hod3⟩, hbv2, by have := q3.1; omega, hX.mono (by omega) hB⟩
  refine AF.icmp_eq 2880 dL_law_2818 (by decide) (fun h1 => ?_) (fun h1 => ?_)
  · exact next F _ _ _ _ hLI
  · exact absurd rfl h1
set_option maxRecDepth 100000 in
set_option maxHeartbeats 2000000 in
theorem LC57_ok (hL : LI G c F X B) (ha : gN G ≤ c) (hs : SCR G b L xs) (hi : i + 4 < L) (hl : L ≤ 2560) (hB : B + 2500 ≤ 2 ^ 21) (l6 l7 l8 : Option Value) (next : ∀ F' X' l6 l7 l8, LI G c F' X' (B + 2500) → AF G mL_law 13 bc bs R F' 2880 [some (.ref b), some (.ref c), some (.ref (c + 131)), some (.ref (c + 140)), some (.ref (c + 141)), some (.int (nI i)), l6, l7, l8] []) : AF G mL_law 13 (bc + 50) (bs + 6964) R F 2823 [some (.ref b), some (.ref c), some (.ref (c + 131)), some (.ref (c + 140)), some (.ref (c + 141)), some (.int (nI i)), l6, l7, l8] [] := by
  obtain ⟨bv, th, f, g, hC, hM, ⟨ho, hod⟩, hbv, hz, hX⟩ := hL
  obtain ⟨hn, hf, ⟨c0, -⟩, -⟩ := id hC
  refine AF.less (d' := 13) (bc' := bc) (bs' := bs) ?_ (Nat.le_refl _) (by omega) (by omega)
  refine AF.aload_n dL_law_2823 rfl ?_
  refine AF.vw dL_law_2824 kv_L_358 (X8_save_ok hC ha) c0 rfl rfl rfl (Nat.le_of_ble_eq_true rfl) (by decide) rfl (fun E F9 q => absurd rfl (rx_x q.1).1) (fun v F2 q => ?_)
  obtain ⟨q, bv2, hC2, x1, x2, x3⟩ := q
  obtain ⟨-, q⟩ := rx_n q
  cases q
  have hbv2 : bv2 = c + 42 ∨ c + 142 ≤ bv2 := by omega
  have hM2 := hM.kept (F' := F2) (fun q a b => x3 q (by omega) (by omega) (by omega))
  have ho2 := (x3 (c + 140) (by omega) (by omega) (by omega)).trans ho
  have hod2 := (x3 (c + 141) (by omega) (by omega) (by omega)).trans hod
  obtain ⟨g2, f9, A2, ⟨m0, -⟩, -⟩ := id hM2
  refine AF.aload_n dL_law_2827 rfl ?_
  refine AF.vw dL_law_2828 kv_L_361 (X9_save_ok hM2 (by omega)) (by assumption) rfl rfl rfl (Nat.le_of_ble_eq_true rfl) (by decide) rfl (fun E F9 q => nomatch q.1) (fun v F q => ?_)
  obtain ⟨q, hM3, q3⟩ := q
  cases q
  have hC3 := hC2.kept (fun q a b => q3.2 q (by omega)) (q3.2 bv2 (by omega)) (Nat.le_of_eq q3.1.symm)
  have ho3 := (q3.2 (c + 140) (by omega)).trans ho2
  have hod3 := (q3.2 (c + 141) (by omega)).trans hod2
  have hLI : LI G c F _ (B + 2500) := ⟨bv2, _, f, g, hC3, hM3, ⟨ho3, hod3⟩, hbv2, by have := q3.1; omega, hX.sav.mono (by omega) hB⟩
  refine AF.icmp_eq 2880 dL_law_2831 (by decide) (fun h1 => ?_) (fun h1 => ?_)
  · exact next F _ _ _ _ hLI
  · exact absurd rfl h1
set_option maxRecDepth 100000 in
set_option maxHeartbeats 2000000 in
theorem LC58_ok (hL : LI G c F X B) (ha : gN G ≤ c) (hs : SCR G b L xs) (hi : i + 4 < L) (hl : L ≤ 2560) (hB : B + 2500 ≤ 2 ^ 21) (l6 l7 l8 : Option Value) (next : ∀ F' X' l6 l7 l8, LI G c F' X' (B + 2500) → AF G mL_law 13 bc bs R F' 2880 [some (.ref b), some (.ref c), some (.ref (c + 131)), some (.ref (c + 140)), some (.ref (c + 141)), some (.int (nI i)), l6, l7, l8] []) : AF G mL_law 13 (bc + 50) (bs + 6964) R F 2836 [some (.ref b), some (.ref c), some (.ref (c + 131)), some (.ref (c + 140)), some (.ref (c + 141)), some (.int (nI i)), l6, l7, l8] [] := by
  obtain ⟨bv, th, f, g, hC, hM, ⟨ho, hod⟩, hbv, hz, hX⟩ := hL
  have hpr : (if X.sv.isSome = true then 0 else 1) ≤ 3 := by split <;> omega
  obtain ⟨hn, hf, ⟨c0, -⟩, -⟩ := id hC
  refine AF.less (d' := 13) (bc' := bc + 1) (bs' := bs + 6) ?_ (Nat.le_refl _) (by omega) (by omega)
  refine AF.aload_n dL_law_2836 rfl ?_
  refine AF.aload_n dL_law_2837 rfl ?_
  refine AF.callSX (bc := bc) (bs := bs) (mc' := 1) (ms' := 6) dL_law_2838 kx_L_362 (L_restore_ok (B := B) hC ha ho (by omega) (by omega) (by omega) (by omega)) rfl rfl (Nat.le_of_ble_eq_true rfl) (by decide) rfl (fun E F9 q => nomatch q.1) (fun v F2 q => ?_)
  obtain ⟨q, bv2, hC2, ⟨x1, x2, x3⟩, f2, hr2, hz2⟩ := q
  cases q
  have hbv2 : bv2 = c + 42 ∨ c + 142 ≤ bv2 := by omega
  have hM2 := hM.kept (F' := F2) (fun q a b => x3 q (by omega) (by omega) (by omega) (by omega))
  have ho2 := hr2
  have hod2 := (x3 (c + 141) (by omega) (by omega) (by omega) (by omega)).trans hod
  obtain ⟨g2, f9, A2, ⟨m0, -⟩, -⟩ := id hM2
  refine AF.istore dL_law_2841 (by decide) ?_
  refine AF.aload_n dL_law_2843 rfl ?_
  refine AF.vw dL_law_2844 kv_L_364 (X9_restore_ok hM2 (by omega)) (by assumption) rfl rfl rfl (Nat.le_of_ble_eq_true rfl) (by decide) rfl (fun E F9 q => nomatch q.1) (fun v F q => ?_)
  obtain ⟨q, hM3, q3⟩ := q
  cases q
  have hC3 := hC2.kept (fun q a b => q3.2 q (by omega)) (q3.2 bv2 (by omega)) (Nat.le_of_eq q3.1.symm)
  have ho3 := (q3.2 (c + 140) (by omega)).trans ho2
  have hod3 := (q3.2 (c + 141) (by omega)).trans hod2
  clear m0
  obtain ⟨g3, f9, A3, ⟨m0, -⟩, -⟩ := id hM3
  have hLI : LI G c F (reX X) (B + 2500) := ⟨bv2, _, f2, g, hC3, hM3, ⟨ho3, hod3⟩, hbv2, by have := q3.1; omega, hX.rest.mono (by omega) hB⟩
  refine AF.istore dL_law_2847 (by decide) ?_
  refine AF.aload_n dL_law_2849 rfl ?_
  refine AF.v1 dL_law_2850 kv_L_163 ((X9_thrown_ok hM3)) (by assumption) rfl rfl rfl (Nat.le_of_ble_eq_true rfl) (by decide) rfl ?_
  refine AF.iload dL_law_2853 rfl ?_
  refine AF.icmp_eq 2860 dL_law_2855 (by decide) (fun h1 => ?_) (fun h1 => ?_)
  · refine AF.iload dL_law_2860 rfl ?_
    refine AF.if_ne 2877 dL_law_2862 (by decide) (fun h2 => ?_) (fun h2 => ?_)
    · refine AF.goto 2880 dL_law_2877 (by decide) ?_
      exact next F _ _ _ _ hLI
    · have h2 : nI (if X.sv.isSome = true then 0 else 1) = nI 0 := h2
      rw [nI_eq (by omega) (by omega)] at h2
      refine AF.aload_n dL_law_2865 rfl ?_
      refine AF.iconst (nI 0) dL_law_2866 (by decide) ?_
      refine AF.laload 0 dL_law_2867 ho3 rfl (by omega) (by decide) ?_
      rw [hz2 h2]
      refine AF.iload dL_law_2868 rfl ?_
      refine AF.i2l dL_law_2870 ?_
      rw [if_pos h2]
      refine AF.lcmp dL_law_2871 ?_
      rw [lcmp_self]
      refine AF.if_eq 2877 dL_law_2872 (by decide) (fun h3 => ?_) (fun h3 => ?_)
      · refine AF.goto 2880 dL_law_2877 (by decide) ?_
        exact next F _ _ _ _ hLI
      · exact absurd rfl h3
  · exact absurd rfl h1
end

