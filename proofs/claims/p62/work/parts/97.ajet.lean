/-! The law: jets. -/
section
variable {G : GA} {F0 : AH} {c bv0 B : Nat} {Y : YS}
set_option maxRecDepth 100000 in
set_option maxHeartbeats 8000000 in
theorem L_areJets_ok (hK0 : LK G c Y B bv0 F0) (ha : gN G ≤ c) (hW : WI Y.1) (p : Int32) (hp : -1000 ≤ p.toInt ∧ p.toInt ≤ 1000) : AC G mL_areJets 13 722 4332 [.ref c, .int p] F0 (LR (LK G c Y B) c bv0 F0 (.int 1)) := by
  have hq := hK0.q
  have q1 := hq.2.2.1
  have q2 := hq.2.2.2.1
  have q3 := hq.2.2.2.2.2
  have hPD := hq.2.1
  obtain ⟨hI, hcap, -, -, -, -, -, hB2⟩ := id hq.1
  have hd := dem_le hI q1
  have hsp := sup_le (J := Y.1.J) (cap := Y.1.cap)
  -- the pairs, and what comes behind them
  have fin : ∀ F bv bc bs l7 l9 l10 l11 l12 l13 l14 l15, 2 ≤ bc → 12 ≤ bs → LK G c Y B bv F → XF c bv0 bv F0 F → AF G mL_areJets 13 bc bs (LR (LK G c Y B) c bv0 F0 (.int 1)) F 419 [some (.ref c), l7, some (.int (nI Y.1.J.length)), some (.int (nI (sumN (jo Y.1.J) Y.1.J.length))), some (.int (nI (cntB (wld Y.1.J Y.1.cap Y.1.w) Y.1.J.length))), some (.int (nI (dem Y.1.J))), some (.int (nI (sup Y.1.J Y.1.cap))), some (.int (nI (prO (crL Y.1.J Y.1.cap Y.1.w) Y.1.J.length))), some (.int (nI Y.1.J.length)), l9, l10, l11, l12, l13, l14, l15] [] := by
    intro F bv bc bs l7 l9 l10 l11 l12 l13 l14 l15 hb hs hK hX
    refine AF.less (d' := 13) (bc' := 2) (bs' := 12) ?_ (Nat.le_refl _) (by omega) (by omega)
    have k3 : ∀ F bv bc bs, LK G c Y B bv F → XF c bv0 bv F0 F → AF G mL_areJets 13 bc bs (LR (LK G c Y B) c bv0 F0 (.int 1)) F 530 [some (.ref c), l7, some (.int (nI Y.1.J.length)), some (.int (nI (sumN (jo Y.1.J) Y.1.J.length))), some (.int (nI (cntB (wld Y.1.J Y.1.cap Y.1.w) Y.1.J.length))), some (.int (nI (dem Y.1.J))), some (.int (nI (sup Y.1.J Y.1.cap))), some (.int (nI (prO (crL Y.1.J Y.1.cap Y.1.w) Y.1.J.length))), some (.int (nI Y.1.J.length)), l9, l10, l11, l12, l13, l14, l15] [] := by
      intro F bv bc bs hK hX
      refine AF.iconst (1) dL_areJets_530 (by decide) ?_
      refine AF.goto 535 dL_areJets_531 (by decide) ?_
      exact AF.zreturn dL_areJets_535 rfl rfl ⟨rfl, bv, hK, hX⟩
    have k2 : ∀ F bv, LK G c Y B bv F → XF c bv0 bv F0 F → AF G mL_areJets 13 1 6 (LR (LK G c Y B) c bv0 F0 (.int 1)) F 497 [some (.ref c), l7, some (.int (nI Y.1.J.length)), some (.int (nI (sumN (jo Y.1.J) Y.1.J.length))), some (.int (nI (cntB (wld Y.1.J Y.1.cap Y.1.w) Y.1.J.length))), some (.int (nI (dem Y.1.J))), some (.int (nI (sup Y.1.J Y.1.cap))), some (.int (nI (prO (crL Y.1.J Y.1.cap Y.1.w) Y.1.J.length))), some (.int (nI Y.1.J.length)), l9, l10, l11, l12, l13, l14, l15] [] := by
      intro F bv hK hX
      refine AF.iload dL_areJets_497 rfl ?_
      refine AF.if_ne 515 dL_areJets_499 (by decide) (fun c1 => ?_) (fun c1 => ?_)
      · have h0 : ¬ dem Y.1.J = 0 := fun z => c1 (by rw [z]; rfl)
        have hg := flt_f (dem Y.1.J) (by omega) (sup Y.1.J Y.1.cap) (by omega) (by omega)
        have hg2 := flt_g (dem Y.1.J) (by omega) (sup Y.1.J Y.1.cap) (by omega) (by omega)
        refine AF.aload_n dL_areJets_515 rfl ?_
        refine AF.lx (mc' := 1) (ms' := 6) (bc := 0) (bs := 0) dL_areJets_516 kx_L_351 (W_supplyFraction hK h0) hX rfl rfl (Nat.le_of_ble_eq_true rfl) (by decide) rfl (fun F bv hK hX => ?_)
        refine AF.iload dL_areJets_519 rfl ?_
        refine AF.i2f dL_areJets_521 ?_
        refine AF.iload dL_areJets_522 rfl ?_
        refine AF.i2f dL_areJets_524 ?_
        refine AF.fdiv dL_areJets_525 hg.1 ?_
        refine AF.fcmp dL_areJets_526 ?_
        refine AF.if_ne 534 dL_areJets_527 (by decide) (fun c2 => ?_) (fun c2 => ?_)
        · exact absurd hg2 c2
        · exact k3 F bv _ _ hK hX
      · have h0 : dem Y.1.J = 0 := by
          have c1 : nI (dem Y.1.J) = nI 0 := c1
          rwa [nI_eq (by omega) (by omega)] at c1
        refine AF.aload_n dL_areJets_502 rfl ?_
        refine AF.lx (mc' := 1) (ms' := 6) (bc := 0) (bs := 0) dL_areJets_503 kx_L_351 (W_supplyFraction_no hK h0) hX rfl rfl (Nat.le_of_ble_eq_true rfl) (by decide) rfl (fun F bv hK hX => ?_)
        refine AF.ldcF dL_areJets_506 kl_L_136 ?_
        refine AF.fcmp dL_areJets_508 ?_
        refine AF.if_ne 534 dL_areJets_509 (by decide) (fun c2 => ?_) (fun c2 => ?_)
        · exact absurd flt_7.2 c2
        · refine AF.goto 530 dL_areJets_512 (by decide) ?_
          exact k3 F bv _ _ hK hX
    refine AF.iload_n dL_areJets_419 rfl ?_
    refine AF.iload dL_areJets_420 rfl ?_
    refine AF.icmp_ne 534 dL_areJets_422 (by decide) (fun c1 => ?_) (fun c1 => ?_)
    · exact absurd rfl c1
    · refine AF.aload_n dL_areJets_425 rfl ?_
      refine AF.lv (mc' := 0) (ms' := 0) (bc := 2) (bs := 12) dL_areJets_426 kv_L_219 (Y_wildCount hK) hK.c0.choose_spec rfl hX rfl rfl (Nat.le_of_ble_eq_true rfl) (by decide) rfl (fun F bv hK hX => ?_)
      refine AF.iload dL_areJets_429 rfl ?_
      refine AF.icmp_ne 534 dL_areJets_431 (by decide) (fun c2 => ?_) (fun c2 => ?_)
      · exact absurd rfl c2
      · refine AF.iload dL_areJets_434 rfl ?_
        refine AF.iload dL_areJets_436 rfl ?_
        refine AF.aload_n dL_areJets_438 rfl ?_
        refine AF.lv (mc' := 0) (ms' := 0) (bc := 2) (bs := 12) dL_areJets_439 kv_L_297 (Y_capacity hK) hK.c0.choose_spec rfl hX rfl rfl (Nat.le_of_ble_eq_true rfl) (by decide) rfl (fun F bv hK hX => ?_)
        refine AF.min dL_areJets_442 km_L_339 (Nat.le_of_ble_eq_true rfl) (by decide) ?_
        rw [nI_mn (by omega) (by omega)]
        refine AF.icmp_ne 534 dL_areJets_445 (by decide) (fun c3 => ?_) (fun c3 => ?_)
        · exact absurd rfl c3
        · refine AF.aload_n dL_areJets_448 rfl ?_
          refine AF.lv (mc' := 0) (ms' := 0) (bc := 2) (bs := 12) dL_areJets_449 kv_L_342 (Y_crossings hK) hK.c0.choose_spec rfl hX rfl rfl (Nat.le_of_ble_eq_true rfl) (by decide) rfl (fun F bv hK hX => ?_)
          refine AF.iload dL_areJets_452 rfl ?_
          refine AF.icmp_ne 534 dL_areJets_454 (by decide) (fun c4 => ?_) (fun c4 => ?_)
          · exact absurd (congrArg nI (prs_law hPD)) c4
          · refine AF.aload_n dL_areJets_457 rfl ?_
            refine AF.lv (mc' := 0) (ms' := 0) (bc := 2) (bs := 12) dL_areJets_458 kv_L_345 (Y_crossingsByMerging hK ha) hK.c0.choose_spec rfl hX rfl rfl (Nat.le_of_ble_eq_true rfl) (by decide) rfl (fun F bv hK hX => ?_)
            refine AF.iload dL_areJets_461 rfl ?_
            refine AF.icmp_ne 534 dL_areJets_463 (by decide) (fun c5 => ?_) (fun c5 => ?_)
            · exact absurd (congrArg nI (prs_law hPD)) c5
            · refine AF.iload_n dL_areJets_466 rfl ?_
              refine AF.if_ne 484 dL_areJets_467 (by decide) (fun c6 => ?_) (fun c6 => ?_)
              · have h0 : 0 < Y.1.J.length := Nat.pos_of_ne_zero (fun z => c6 (by rw [z]; rfl))
                have hg := flt_d Y.1.J.length (by omega) (dem Y.1.J) (by omega) h0
                refine AF.aload_n dL_areJets_484 rfl ?_
                refine AF.lx (mc' := 1) (ms' := 6) (bc := 1) (bs := 6) dL_areJets_485 kx_L_348 (W_meanOpening hK h0) hX rfl rfl (Nat.le_of_ble_eq_true rfl) (by decide) rfl (fun F bv hK hX => ?_)
                refine AF.iload_n dL_areJets_488 rfl ?_
                refine AF.i2d dL_areJets_489 ?_
                refine AF.iload_n dL_areJets_490 rfl ?_
                refine AF.i2d dL_areJets_491 ?_
                refine AF.ddiv dL_areJets_492 hg.1 ?_
                refine AF.dcmp dL_areJets_493 ?_
                refine AF.if_ne 534 dL_areJets_494 (by decide) (fun c7 => ?_) (fun c7 => ?_)
                · exact absurd hg.2 c7
                · exact k2 F bv hK hX
              · have h0 : Y.1.J.length = 0 := by
                  have c6 : nI Y.1.J.length = nI 0 := c6
                  rwa [nI_eq (by omega) (by omega)] at c6
                refine AF.aload_n dL_areJets_470 rfl ?_
                refine AF.lx (mc' := 1) (ms' := 6) (bc := 1) (bs := 6) dL_areJets_471 kx_L_348 (W_meanOpening_no hK h0) hX rfl rfl (Nat.le_of_ble_eq_true rfl) (by decide) rfl (fun F bv hK hX => ?_)
                refine AF.ldc2D dL_areJets_474 kl_L_130 ?_
                refine AF.dcmp dL_areJets_477 ?_
                refine AF.if_ne 534 dL_areJets_478 (by decide) (fun c7 => ?_) (fun c7 => ?_)
                · exact absurd flt_7.1 c7
                · refine AF.goto 497 dL_areJets_481 (by decide) ?_
                  exact k2 F bv hK hX
  have lp2 : ∀ r a F bv bc bs l7 l9 l10 l11 l12 l13 l14 l15, a + r = Y.1.J.length → 54 * r + 2 ≤ bc → 324 * r + 12 ≤ bs → LK G c Y B bv F → XF c bv0 bv F0 F → AF G mL_areJets 13 bc bs (LR (LK G c Y B) c bv0 F0 (.int 1)) F 323 [some (.ref c), l7, some (.int (nI Y.1.J.length)), some (.int (nI (sumN (jo Y.1.J) Y.1.J.length))), some (.int (nI (cntB (wld Y.1.J Y.1.cap Y.1.w) Y.1.J.length))), some (.int (nI (dem Y.1.J))), some (.int (nI (sup Y.1.J Y.1.cap))), some (.int (nI (prO (crL Y.1.J Y.1.cap Y.1.w) a))), some (.int (nI a)), l9, l10, l11, l12, l13, l14, l15] [] := by
    intro r
    induction r with
    | zero =>
      intro a F bv bc bs l7 l9 l10 l11 l12 l13 l14 l15 ha9 hb hs hK hX
      have e9 : a = Y.1.J.length := by omega
      subst e9
      refine AF.iload dL_areJets_323 rfl ?_
      refine AF.iload_n dL_areJets_325 rfl ?_
      refine AF.icmp_ge 419 dL_areJets_326 (by decide) (fun c1 => ?_) (fun c1 => ?_)
      · exact fin F bv _ _ l7 l9 l10 l11 l12 l13 l14 l15 (by omega) (by omega) hK hX
      · exact absurd (nI_le (a := Y.1.J.length) (b := Y.1.J.length) (by omega) (by omega)) c1
    | succ r ih =>
      intro a F bv bc bs l7 l9 l10 l11 l12 l13 l14 l15 ha9 hb hs hK hX
      have hal : a < Y.1.J.length := by omega
      refine AF.iload dL_areJets_323 rfl ?_
      refine AF.iload_n dL_areJets_325 rfl ?_
      refine AF.icmp_ge 419 dL_areJets_326 (by decide) (fun c1 => ?_) (fun c1 => ?_)
      · rw [nI_leI (by omega) (by omega)] at c1; omega
      · refine AF.iconst (nI 0) dL_areJets_329 (by decide) ?_
        refine AF.istore dL_areJets_330 (by decide) ?_
        have lp : ∀ z b F bv bc bs, b + z = a → 54 * r + 2 + 6 * z ≤ bc → 324 * r + 12 + 36 * z ≤ bs → LK G c Y B bv F → XF c bv0 bv F0 F → AF G mL_areJets 13 bc bs (LR (LK G c Y B) c bv0 F0 (.int 1)) F 332 [some (.ref c), l7, some (.int (nI Y.1.J.length)), some (.int (nI (sumN (jo Y.1.J) Y.1.J.length))), some (.int (nI (cntB (wld Y.1.J Y.1.cap Y.1.w) Y.1.J.length))), some (.int (nI (dem Y.1.J))), some (.int (nI (sup Y.1.J Y.1.cap))), some (.int (nI (prO (crL Y.1.J Y.1.cap Y.1.w) a + sumN (fun b => crL Y.1.J Y.1.cap Y.1.w a b) b))), some (.int (nI a)), some (.int (nI b)), l10, l11, l12, l13, l14, l15] [] := by
          intro z
          induction z with
          | zero =>
            intro b F bv bc bs hk hb hs hK hX
            have e9 : b = a := by omega
            subst e9
            refine AF.iload dL_areJets_332 rfl ?_
            refine AF.iload dL_areJets_334 rfl ?_
            refine AF.icmp_ge 413 dL_areJets_336 (by decide) (fun c2 => ?_) (fun c2 => ?_)
            · refine AF.inc1 dL_areJets_413 rfl (by decide) ?_
              refine AF.goto 323 dL_areJets_416 (by decide) ?_
              exact ih (b + 1) F bv _ _ l7 _ l10 l11 l12 l13 l14 l15 (by omega) (by omega) (by omega) hK hX
            · exact absurd (nI_le (a := b) (b := b) (by omega) (by omega)) c2
          | succ z ih2 =>
            intro b F bv bc bs hk hb hs hK hX
            have hbl : b < Y.1.J.length := by omega
            have hne : ¬ jp Y.1.J a = jp Y.1.J b := fun q => by have := hPD a b hal hbl q; omega
            have hpa := (hI a).1
            have hpb := (hI b).1
            refine AF.less (d' := 13) (bc' := 54 * r + 6 * z + 8) (bs' := 324 * r + 36 * z + 48) ?_ (Nat.le_refl _) (by omega) (by omega)
            have k4 : ∀ v F bv bc bs, v = crL Y.1.J Y.1.cap Y.1.w a b → 54 * r + 2 + 6 * z ≤ bc → 324 * r + 12 + 36 * z ≤ bs → LK G c Y B bv F → XF c bv0 bv F0 F → AF G mL_areJets 13 bc bs (LR (LK G c Y B) c bv0 F0 (.int 1)) F 404 [some (.ref c), l7, some (.int (nI Y.1.J.length)), some (.int (nI (sumN (jo Y.1.J) Y.1.J.length))), some (.int (nI (cntB (wld Y.1.J Y.1.cap Y.1.w) Y.1.J.length))), some (.int (nI (dem Y.1.J))), some (.int (nI (sup Y.1.J Y.1.cap))), some (.int (nI (prO (crL Y.1.J Y.1.cap Y.1.w) a + sumN (fun b => crL Y.1.J Y.1.cap Y.1.w a b) b))), some (.int (nI a)), some (.int (nI b)), l10, l11, l12, l13, l14, l15] [.int (nI v), .int (nI (prO (crL Y.1.J Y.1.cap Y.1.w) a + sumN (fun b => crL Y.1.J Y.1.cap Y.1.w a b) b))] := by
              intro v F bv bc bs hv hb hs hK hX
              subst hv
              refine AF.iadd dL_areJets_404 ?_
              rw [nI_add, Nat.add_assoc (prO (crL Y.1.J Y.1.cap Y.1.w) a)]
              refine AF.istore dL_areJets_405 (by decide) ?_
              refine AF.inc1 dL_areJets_407 rfl (by decide) ?_
              refine AF.goto 332 dL_areJets_410 (by decide) ?_
              exact ih2 (b + 1) F bv _ _ (by omega) (by omega) (by omega) hK hX
            -- behind both comparisons
            have k2 : ∀ F bv (u v : Int32), u = (if jp Y.1.J a < jp Y.1.J b then 1 else 0) → v = (if lan Y.1.J Y.1.cap Y.1.w (dem Y.1.J) b < lan Y.1.J Y.1.cap Y.1.w (dem Y.1.J) a then 1 else 0) → LK G c Y B bv F → XF c bv0 bv F0 F → AF G mL_areJets 13 (54 * r + 6 * z + 4) (324 * r + 36 * z + 24) (LR (LK G c Y B) c bv0 F0 (.int 1)) F 381 [some (.ref c), l7, some (.int (nI Y.1.J.length)), some (.int (nI (sumN (jo Y.1.J) Y.1.J.length))), some (.int (nI (cntB (wld Y.1.J Y.1.cap Y.1.w) Y.1.J.length))), some (.int (nI (dem Y.1.J))), some (.int (nI (sup Y.1.J Y.1.cap))), some (.int (nI (prO (crL Y.1.J Y.1.cap Y.1.w) a + sumN (fun b => crL Y.1.J Y.1.cap Y.1.w a b) b))), some (.int (nI a)), some (.int (nI b)), l10, l11, l12, l13, l14, l15] [.int v, .int u, .int (nI (prO (crL Y.1.J Y.1.cap Y.1.w) a + sumN (fun b => crL Y.1.J Y.1.cap Y.1.w a b) b))] := by
              intro F bv u v hu hv hK hX
              have ev : u = v ↔ decide (jp Y.1.J a < jp Y.1.J b) = decide (lan Y.1.J Y.1.cap Y.1.w (dem Y.1.J) b < lan Y.1.J Y.1.cap Y.1.w (dem Y.1.J) a) := by
                rw [hu, hv]
                by_cases x1 : jp Y.1.J a < jp Y.1.J b
                · by_cases x2 : lan Y.1.J Y.1.cap Y.1.w (dem Y.1.J) b < lan Y.1.J Y.1.cap Y.1.w (dem Y.1.J) a
                  · simp [x1, x2]
                  · simp [x1, x2]
                · by_cases x2 : lan Y.1.J Y.1.cap Y.1.w (dem Y.1.J) b < lan Y.1.J Y.1.cap Y.1.w (dem Y.1.J) a
                  · simp [x1, x2]
                  · simp [x1, x2]
              refine AF.icmp_ne 403 dL_areJets_381 (by decide) (fun c3 => ?_) (fun c3 => ?_)
              · refine AF.iconst (nI 0) dL_areJets_403 (by decide) ?_
                exact k4 0 F bv _ _ (by unfold crL; rw [if_neg (fun q => c3 (ev.mpr q.1))]) (by omega) (by omega) hK hX
              · refine AF.aload_n dL_areJets_384 rfl ?_
                refine AF.iload dL_areJets_385 rfl ?_
                refine AF.lx (mc' := 1) (ms' := 6) (bc := 54 * r + 6 * z + 3) (bs := 324 * r + 36 * z + 18) dL_areJets_387 kx_L_324 (W_landing hK hal) hX rfl rfl (Nat.le_of_ble_eq_true rfl) (by decide) rfl (fun F bv hK hX => ?_)
                refine AF.aload_n dL_areJets_390 rfl ?_
                refine AF.iload dL_areJets_391 rfl ?_
                refine AF.lx (mc' := 1) (ms' := 6) (bc := 54 * r + 6 * z + 2) (bs := 324 * r + 36 * z + 12) dL_areJets_393 kx_L_324 (W_landing hK hbl) hX rfl rfl (Nat.le_of_ble_eq_true rfl) (by decide) rfl (fun F bv hK hX => ?_)
                refine AF.icmp_eq 403 dL_areJets_396 (by decide) (fun c4 => ?_) (fun c4 => ?_)
                · refine AF.iconst (nI 0) dL_areJets_403 (by decide) ?_
                  exact k4 0 F bv _ _ (by unfold crL; rw [if_neg (fun q => q.2 c4)]) (by omega) (by omega) hK hX
                · refine AF.iconst (nI 1) dL_areJets_399 (by decide) ?_
                  refine AF.goto 404 dL_areJets_400 (by decide) ?_
                  exact k4 1 F bv _ _ (by unfold crL; rw [if_pos ⟨ev.mp c3, c4⟩]) (by omega) (by omega) hK hX
            have k1 : ∀ F bv (u : Int32), u = (if jp Y.1.J a < jp Y.1.J b then 1 else 0) → LK G c Y B bv F → XF c bv0 bv F0 F → AF G mL_areJets 13 (54 * r + 6 * z + 6) (324 * r + 36 * z + 36) (LR (LK G c Y B) c bv0 F0 (.int 1)) F 361 [some (.ref c), l7, some (.int (nI Y.1.J.length)), some (.int (nI (sumN (jo Y.1.J) Y.1.J.length))), some (.int (nI (cntB (wld Y.1.J Y.1.cap Y.1.w) Y.1.J.length))), some (.int (nI (dem Y.1.J))), some (.int (nI (sup Y.1.J Y.1.cap))), some (.int (nI (prO (crL Y.1.J Y.1.cap Y.1.w) a + sumN (fun b => crL Y.1.J Y.1.cap Y.1.w a b) b))), some (.int (nI a)), some (.int (nI b)), l10, l11, l12, l13, l14, l15] [.int u, .int (nI (prO (crL Y.1.J Y.1.cap Y.1.w) a + sumN (fun b => crL Y.1.J Y.1.cap Y.1.w a b) b))] := by
              intro F bv u hu hK hX
              refine AF.aload_n dL_areJets_361 rfl ?_
              refine AF.iload dL_areJets_362 rfl ?_
              refine AF.lx (mc' := 1) (ms' := 6) (bc := 54 * r + 6 * z + 5) (bs := 324 * r + 36 * z + 30) dL_areJets_364 kx_L_324 (W_landing hK hal) hX rfl rfl (Nat.le_of_ble_eq_true rfl) (by decide) rfl (fun F bv hK hX => ?_)
              refine AF.aload_n dL_areJets_367 rfl ?_
              refine AF.iload dL_areJets_368 rfl ?_
              refine AF.lx (mc' := 1) (ms' := 6) (bc := 54 * r + 6 * z + 4) (bs := 324 * r + 36 * z + 24) dL_areJets_370 kx_L_324 (W_landing hK hbl) hX rfl rfl (Nat.le_of_ble_eq_true rfl) (by decide) rfl (fun F bv hK hX => ?_)
              refine AF.icmp_le 380 dL_areJets_373 (by decide) (fun c3 => ?_) (fun c3 => ?_)
              · refine AF.iconst (0) dL_areJets_380 (by decide) ?_
                exact k2 F bv _ _ hu (by rw [if_neg (Int32.not_lt.mpr c3)]) hK hX
              · refine AF.iconst (1) dL_areJets_376 (by decide) ?_
                refine AF.goto 381 dL_areJets_377 (by decide) ?_
                exact k2 F bv _ _ hu (by rw [if_pos (Int32.not_le.mp c3)]) hK hX
            refine AF.iload dL_areJets_332 rfl ?_
            refine AF.iload dL_areJets_334 rfl ?_
            refine AF.icmp_ge 413 dL_areJets_336 (by decide) (fun c2 => ?_) (fun c2 => ?_)
            · rw [nI_leI (by omega) (by omega)] at c2; omega
            · refine AF.iload dL_areJets_339 rfl ?_
              refine AF.aload_n dL_areJets_341 rfl ?_
              refine AF.iload dL_areJets_342 rfl ?_
              refine AF.lx (mc' := 1) (ms' := 6) (bc := 54 * r + 6 * z + 7) (bs := 324 * r + 36 * z + 42) dL_areJets_344 kx_L_305 (W_position hK hal) hX rfl rfl (Nat.le_of_ble_eq_true rfl) (by decide) rfl (fun F bv hK hX => ?_)
              refine AF.aload_n dL_areJets_347 rfl ?_
              refine AF.iload dL_areJets_348 rfl ?_
              refine AF.lx (mc' := 1) (ms' := 6) (bc := 54 * r + 6 * z + 6) (bs := 324 * r + 36 * z + 36) dL_areJets_350 kx_L_305 (W_position hK hbl) hX rfl rfl (Nat.le_of_ble_eq_true rfl) (by decide) rfl (fun F bv hK hX => ?_)
              refine AF.icmp_ge 360 dL_areJets_353 (by decide) (fun c3 => ?_) (fun c3 => ?_)
              · rw [nI_leI (by omega) (by omega)] at c3
                refine AF.iconst (0) dL_areJets_360 (by decide) ?_
                exact k1 F bv _ (by rw [if_neg (by omega)]) hK hX
              · rw [nI_leI (by omega) (by omega)] at c3
                refine AF.iconst (1) dL_areJets_356 (by decide) ?_
                refine AF.goto 361 dL_areJets_357 (by decide) ?_
                exact k1 F bv _ (by rw [if_pos (by omega)]) hK hX
        exact lp a 0 F bv _ _ (by omega) (by omega) (by omega) hK hX
  -- each jet
  have lp1 : ∀ r j F bv bc bs l8 l9 l10 l11 l12 l13 l14 l15, j + r = Y.1.J.length → 18 * r + 542 ≤ bc → 108 * r + 3252 ≤ bs → LK G c Y B bv F → XF c bv0 bv F0 F → AF G mL_areJets 13 bc bs (LR (LK G c Y B) c bv0 F0 (.int 1)) F 25 [some (.ref c), some (.int p), some (.int (nI Y.1.J.length)), some (.int (nI (sumN (jo Y.1.J) j))), some (.int (nI (cntB (wld Y.1.J Y.1.cap Y.1.w) j))), some (.int (nI (dem Y.1.J))), some (.int (nI (sup Y.1.J Y.1.cap))), some (.int (nI j)), l8, l9, l10, l11, l12, l13, l14, l15] [] := by
    intro r
    induction r with
    | zero =>
      intro j F bv bc bs l8 l9 l10 l11 l12 l13 l14 l15 hj hb hs hK hX
      have e9 : j = Y.1.J.length := by omega
      subst e9
      refine AF.iload dL_areJets_25 rfl ?_
      refine AF.iload_n dL_areJets_27 rfl ?_
      refine AF.icmp_ge 317 dL_areJets_28 (by decide) (fun c1 => ?_) (fun c1 => ?_)
      · refine AF.iconst (nI 0) dL_areJets_317 (by decide) ?_
        refine AF.istore dL_areJets_318 (by decide) ?_
        refine AF.iconst (nI 0) dL_areJets_320 (by decide) ?_
        refine AF.istore dL_areJets_321 (by decide) ?_
        exact lp2 Y.1.J.length 0 F bv _ _ (some (.int p)) l9 l10 l11 l12 l13 l14 l15 (by omega) (by omega) (by omega) hK hX
      · exact absurd (nI_le (a := Y.1.J.length) (b := Y.1.J.length) (by omega) (by omega)) c1
    | succ r ih =>
      intro j F bv bc bs l8 l9 l10 l11 l12 l13 l14 l15 hj hb hs hK hX
      have hjl : j < Y.1.J.length := by omega
      have hij := hI j
      have hhg := hgt_le (cap := Y.1.cap) (D := dem Y.1.J) (hI j).2
      have hhi := hghst_ok (cap := Y.1.cap) hjl
      have hne := nrst_ok (cap := Y.1.cap) (w := Y.1.w) (p := p) hjl
      have hgh := hgt_le (cap := Y.1.cap) (D := dem Y.1.J) (hI (hghst Y.1.J Y.1.cap)).2
      have hlj := lan_rng (cap := Y.1.cap) (D := dem Y.1.J) (j := j) hW hI
      have hln := lan_rng (cap := Y.1.cap) (D := dem Y.1.J) (j := nrst Y.1.J Y.1.cap Y.1.w p) hW hI
      have hcu := cntB_le (P := fun i => fus (fg Y.1.Fg i) j) Y.1.Fg.length
      refine AF.less (d' := 13) (bc' := 18 * r + 560) (bs' := 108 * r + 3360) ?_ (Nat.le_refl _) (by omega) (by omega)
      -- at 214: the order holds
      have k3 : ∀ F bv, LK G c Y B bv F → XF c bv0 bv F0 F → AF G mL_areJets 13 (18 * r + 548) (108 * r + 3288) (LR (LK G c Y B) c bv0 F0 (.int 1)) F 214 [some (.ref c), some (.int p), some (.int (nI Y.1.J.length)), some (.int (nI (sumN (jo Y.1.J) (j + 1)))), some (.int (nI (cntB (wld Y.1.J Y.1.cap Y.1.w) (j + 1)))), some (.int (nI (dem Y.1.J))), some (.int (nI (sup Y.1.J Y.1.cap))), some (.int (nI j)), some (.int (nI (jo Y.1.J j))), some (.int (nI (hgt Y.1.cap (dem Y.1.J) (jo Y.1.J j)))), some (.int (nI (hgt Y.1.cap (dem Y.1.J) (jo Y.1.J j)) * Y.1.w / 20)), some (.int 1), some (.int 1), some (.int (nI (jbr Y.1.J j))), l14, l15] [.int 1] := by
        intro F bv hK hX
        refine AF.istore dL_areJets_214 (by decide) ?_
        refine AF.aload_n dL_areJets_216 rfl ?_
        refine AF.aload_n dL_areJets_217 rfl ?_
        refine AF.lx (mc' := 1) (ms' := 6) (bc := 18 * r + 547) (bs := 108 * r + 3282) dL_areJets_218 kx_L_328 (W_highestJet hK (by omega)) hX rfl rfl (Nat.le_of_ble_eq_true rfl) (by decide) rfl (fun F bv hK hX => ?_)
        refine AF.lx (mc' := 1) (ms' := 6) (bc := 18 * r + 546) (bs := 108 * r + 3276) dL_areJets_221 kx_L_320 (W_height hK hhi.1) hX rfl rfl (Nat.le_of_ble_eq_true rfl) (by decide) rfl (fun F bv hK hX => ?_)
        refine AF.iload dL_areJets_224 rfl ?_
        refine AF.icmp_lt 261 dL_areJets_226 (by decide) (fun c1 => ?_) (fun c1 => ?_)
        · rw [nI_ltI (by omega) (by omega)] at c1; omega
        · refine AF.aload_n dL_areJets_229 rfl ?_
          refine AF.aload_n dL_areJets_230 rfl ?_
          refine AF.iload_n dL_areJets_231 rfl ?_
          refine AF.lx (mc' := 1) (ms' := 6) (bc := 18 * r + 545) (bs := 108 * r + 3270) dL_areJets_232 kx_L_330 (W_nearestLanding hK (by omega) p) hX rfl rfl (Nat.le_of_ble_eq_true rfl) (by decide) rfl (fun F bv hK hX => ?_)
          refine AF.lx (mc' := 1) (ms' := 6) (bc := 18 * r + 544) (bs := 108 * r + 3264) dL_areJets_235 kx_L_324 (W_landing hK hne.1) hX rfl rfl (Nat.le_of_ble_eq_true rfl) (by decide) rfl (fun F bv hK hX => ?_)
          refine AF.iload_n dL_areJets_238 rfl ?_
          refine AF.isub dL_areJets_239 ?_
          refine AF.abs dL_areJets_240 km_L_332 (Nat.le_of_ble_eq_true rfl) (by decide) ?_
          refine AF.aload_n dL_areJets_243 rfl ?_
          refine AF.iload dL_areJets_244 rfl ?_
          refine AF.lx (mc' := 1) (ms' := 6) (bc := 18 * r + 543) (bs := 108 * r + 3258) dL_areJets_246 kx_L_324 (W_landing hK hjl) hX rfl rfl (Nat.le_of_ble_eq_true rfl) (by decide) rfl (fun F bv hK hX => ?_)
          refine AF.iload_n dL_areJets_249 rfl ?_
          refine AF.isub dL_areJets_250 ?_
          refine AF.abs dL_areJets_251 km_L_332 (Nat.le_of_ble_eq_true rfl) (by decide) ?_
          refine AF.icmp_gt 261 dL_areJets_254 (by decide) (fun c2 => ?_) (fun c2 => ?_)
          · exact absurd (near_ok (by omega) (by omega) hp hne.2) (Int32.not_le.mpr c2)
          · refine AF.iconst (1) dL_areJets_257 (by decide) ?_
            refine AF.goto 262 dL_areJets_258 (by decide) ?_
            refine AF.istore dL_areJets_262 (by decide) ?_
            refine AF.iload dL_areJets_264 rfl ?_
            refine AF.if_eq 309 dL_areJets_266 (by decide) (fun c3 => ?_) (fun c3 => ?_)
            · exact absurd c3 (by decide)
            · refine AF.iload dL_areJets_269 rfl ?_
              refine AF.if_eq 309 dL_areJets_271 (by decide) (fun c4 => ?_) (fun c4 => ?_)
              · exact absurd c4 (by decide)
              · refine AF.iload dL_areJets_274 rfl ?_
                refine AF.if_eq 309 dL_areJets_276 (by decide) (fun c5 => ?_) (fun c5 => ?_)
                · exact absurd c5 (by decide)
                · refine AF.iload dL_areJets_279 rfl ?_
                  refine AF.if_eq 309 dL_areJets_281 (by decide) (fun c6 => ?_) (fun c6 => ?_)
                  · exact absurd c6 (by decide)
                  · refine AF.iload dL_areJets_284 rfl ?_
                    refine AF.if_lt 309 dL_areJets_286 (by decide) (fun c7 => ?_) (fun c7 => ?_)
                    · exact absurd c7 (nI_pos (by omega))
                    · refine AF.iload dL_areJets_289 rfl ?_
                      refine AF.bipush (10) dL_areJets_291 (by decide) ?_
                      refine AF.icmp_gt 309 dL_areJets_293 (by decide) (fun c8 => ?_) (fun c8 => ?_)
                      · have c8 : nI 10 < nI (jo Y.1.J j) := c8
                        rw [nI_ltI (by omega) (by omega)] at c8; omega
                      · refine AF.aload_n dL_areJets_296 rfl ?_
                        refine AF.iload dL_areJets_297 rfl ?_
                        refine AF.lx (mc' := 1) (ms' := 6) (bc := 18 * r + 542) (bs := 108 * r + 3252) dL_areJets_299 kx_L_337 (W_figuresUsing hK hjl) hX rfl rfl (Nat.le_of_ble_eq_true rfl) (by decide) rfl (fun F bv hK hX => ?_)
                        refine AF.aload_n dL_areJets_302 rfl ?_
                        refine AF.lv (mc' := 0) (ms' := 0) (bc := 18 * r + 542) (bs := 108 * r + 3252) dL_areJets_303 kv_L_233 (Y_figureCount hK) hK.c0.choose_spec rfl hX rfl rfl (Nat.le_of_ble_eq_true rfl) (by decide) rfl (fun F bv hK hX => ?_)
                        refine AF.icmp_le 311 dL_areJets_306 (by decide) (fun c9 => ?_) (fun c9 => ?_)
                        · refine AF.inc1 dL_areJets_311 rfl (by decide) ?_
                          refine AF.goto 25 dL_areJets_314 (by decide) ?_
                          exact ih (j + 1) F bv _ _ _ _ _ _ _ _ _ _ (by omega) (by omega) (by omega) hK hX
                        · rw [nI_leI (by omega) (by omega)] at c9; omega
      -- at 173: the drift is right
      have k2 : ∀ F bv l13, LK G c Y B bv F → XF c bv0 bv F0 F → AF G mL_areJets 13 (18 * r + 552) (108 * r + 3312) (LR (LK G c Y B) c bv0 F0 (.int 1)) F 173 [some (.ref c), some (.int p), some (.int (nI Y.1.J.length)), some (.int (nI (sumN (jo Y.1.J) (j + 1)))), some (.int (nI (cntB (wld Y.1.J Y.1.cap Y.1.w) (j + 1)))), some (.int (nI (dem Y.1.J))), some (.int (nI (sup Y.1.J Y.1.cap))), some (.int (nI j)), some (.int (nI (jo Y.1.J j))), some (.int (nI (hgt Y.1.cap (dem Y.1.J) (jo Y.1.J j)))), some (.int (nI (hgt Y.1.cap (dem Y.1.J) (jo Y.1.J j)) * Y.1.w / 20)), some (.int 1), l12, l13, l14, l15] [.int 1] := by
        intro F bv l13 hK hX
        refine AF.istore dL_areJets_173 (by decide) ?_
        refine AF.aload_n dL_areJets_175 rfl ?_
        refine AF.iload dL_areJets_176 rfl ?_
        refine AF.lx (mc' := 1) (ms' := 6) (bc := 18 * r + 551) (bs := 108 * r + 3306) dL_areJets_178 kx_L_326 (W_jetByPosition hK hjl) hX rfl rfl (Nat.le_of_ble_eq_true rfl) (by decide) rfl (fun F bv hK hX => ?_)
        refine AF.istore dL_areJets_181 (by decide) ?_
        refine AF.iload dL_areJets_183 rfl ?_
        refine AF.if_eq 209 dL_areJets_185 (by decide) (fun c1 => ?_) (fun c1 => ?_)
        · refine AF.iconst (1) dL_areJets_209 (by decide) ?_
          refine AF.goto 214 dL_areJets_210 (by decide) ?_
          refine AF.less (d' := 13) ?_ (Nat.le_refl _) (show 18 * r + 548 ≤ 18 * r + 551 by omega) (show 108 * r + 3288 ≤ 108 * r + 3306 by omega)
          exact k3 F bv hK hX
        · have h0 : 0 < j := Nat.pos_of_ne_zero (fun z => c1 (by rw [z]; rfl))
          have hlt := jbr_lt hPD q1 h0 hjl
          have hb1 := (jbr_ok hPD q1 hjl).2.1
          have hb2 := (jbr_ok hPD q1 (r := j - 1) (by omega)).2.1
          have hp1 := (hI (jbr Y.1.J j)).1
          have hp2 := (hI (jbr Y.1.J (j - 1))).1
          refine AF.aload_n dL_areJets_188 rfl ?_
          refine AF.aload_n dL_areJets_189 rfl ?_
          refine AF.iload dL_areJets_190 rfl ?_
          refine AF.iconst (nI 1) dL_areJets_192 (by decide) ?_
          refine AF.isub dL_areJets_193 ?_
          rw [show nI j - nI 1 = nI (j - 1) from pk_sub h0]
          refine AF.lx (mc' := 1) (ms' := 6) (bc := 18 * r + 550) (bs := 108 * r + 3300) dL_areJets_194 kx_L_326 (W_jetByPosition hK (j := j - 1) (by omega)) hX rfl rfl (Nat.le_of_ble_eq_true rfl) (by decide) rfl (fun F bv hK hX => ?_)
          refine AF.lx (mc' := 1) (ms' := 6) (bc := 18 * r + 549) (bs := 108 * r + 3294) dL_areJets_197 kx_L_305 (W_position hK hb2) hX rfl rfl (Nat.le_of_ble_eq_true rfl) (by decide) rfl (fun F bv hK hX => ?_)
          refine AF.aload_n dL_areJets_200 rfl ?_
          refine AF.iload dL_areJets_201 rfl ?_
          refine AF.lx (mc' := 1) (ms' := 6) (bc := 18 * r + 548) (bs := 108 * r + 3288) dL_areJets_203 kx_L_305 (W_position hK hb1) hX rfl rfl (Nat.le_of_ble_eq_true rfl) (by decide) rfl (fun F bv hK hX => ?_)
          refine AF.icmp_ge 213 dL_areJets_206 (by decide) (fun c2 => ?_) (fun c2 => ?_)
          · rw [nI_leI (by omega) (by omega)] at c2; omega
          · refine AF.iconst (1) dL_areJets_209 (by decide) ?_
            refine AF.goto 214 dL_areJets_210 (by decide) ?_
            exact k3 F bv hK hX
      -- at 117: the height is right
      have k1 : ∀ F bv, LK G c Y B bv F → XF c bv0 bv F0 F → AF G mL_areJets 13 (18 * r + 555) (108 * r + 3330) (LR (LK G c Y B) c bv0 F0 (.int 1)) F 117 [some (.ref c), some (.int p), some (.int (nI Y.1.J.length)), some (.int (nI (sumN (jo Y.1.J) (j + 1)))), some (.int (nI (cntB (wld Y.1.J Y.1.cap Y.1.w) (j + 1)))), some (.int (nI (dem Y.1.J))), some (.int (nI (sup Y.1.J Y.1.cap))), some (.int (nI j)), some (.int (nI (jo Y.1.J j))), some (.int (nI (hgt Y.1.cap (dem Y.1.J) (jo Y.1.J j)))), some (.int (nI (hgt Y.1.cap (dem Y.1.J) (jo Y.1.J j)) * Y.1.w / 20)), l11, l12, l13, l14, l15] [.int 1] := by
        intro F bv hK hX
        have hwl : ∀ b : Bool, b = (decide (lan Y.1.J Y.1.cap Y.1.w (dem Y.1.J) j < 0) || decide (99 < lan Y.1.J Y.1.cap Y.1.w (dem Y.1.J) j)) → bI (wld Y.1.J Y.1.cap Y.1.w j) = bI b := fun b hb => by rw [hb]; rfl
        refine AF.istore dL_areJets_117 (by decide) ?_
        refine AF.iload dL_areJets_119 rfl ?_
        refine AF.iload dL_areJets_121 rfl ?_
        refine AF.aload_n dL_areJets_123 rfl ?_
        refine AF.lv (mc' := 0) (ms' := 0) (bc := 18 * r + 555) (bs := 108 * r + 3330) dL_areJets_124 kv_L_302 (Y_wind hK) hK.c0.choose_spec rfl hX rfl rfl (Nat.le_of_ble_eq_true rfl) (by decide) rfl (fun F bv hK hX => ?_)
        refine AF.imul dL_areJets_127 ?_
        refine AF.bipush (20) dL_areJets_128 (by decide) ?_
        refine AF.idiv dL_areJets_130 (by decide) ?_
        refine AF.icmp_ne 172 dL_areJets_131 (by decide) (fun c1 => ?_) (fun c1 => ?_)
        · exact absurd rfl c1
        · refine AF.aload_n dL_areJets_134 rfl ?_
          refine AF.iload dL_areJets_135 rfl ?_
          refine AF.lx (mc' := 1) (ms' := 6) (bc := 18 * r + 554) (bs := 108 * r + 3324) dL_areJets_137 kx_L_322 (W_isWild hK hjl) hX rfl rfl (Nat.le_of_ble_eq_true rfl) (by decide) rfl (fun F bv hK hX => ?_)
          refine AF.aload_n dL_areJets_140 rfl ?_
          refine AF.iload dL_areJets_141 rfl ?_
          refine AF.lx (mc' := 1) (ms' := 6) (bc := 18 * r + 553) (bs := 108 * r + 3318) dL_areJets_143 kx_L_324 (W_landing hK hjl) hX rfl rfl (Nat.le_of_ble_eq_true rfl) (by decide) rfl (fun F bv hK hX => ?_)
          refine AF.if_lt 160 dL_areJets_146 (by decide) (fun c2 => ?_) (fun c2 => ?_)
          · refine AF.iconst (1) dL_areJets_160 (by decide) ?_
            refine AF.goto 165 dL_areJets_161 (by decide) ?_
            rw [hwl true (by rw [decide_eq_true c2]; rfl)]
            refine AF.icmp_ne 172 dL_areJets_165 (by decide) (fun c3 => ?_) (fun c3 => ?_)
            · exact absurd rfl c3
            · refine AF.iconst (1) dL_areJets_168 (by decide) ?_
              refine AF.goto 173 dL_areJets_169 (by decide) ?_
              refine AF.less (d' := 13) ?_ (Nat.le_refl _) (show 18 * r + 552 ≤ 18 * r + 553 by omega) (show 108 * r + 3312 ≤ 108 * r + 3318 by omega)
              exact k2 F bv l13 hK hX
          · refine AF.aload_n dL_areJets_149 rfl ?_
            refine AF.iload dL_areJets_150 rfl ?_
            refine AF.lx (mc' := 1) (ms' := 6) (bc := 18 * r + 552) (bs := 108 * r + 3312) dL_areJets_152 kx_L_324 (W_landing hK hjl) hX rfl rfl (Nat.le_of_ble_eq_true rfl) (by decide) rfl (fun F bv hK hX => ?_)
            refine AF.bipush (99) dL_areJets_155 (by decide) ?_
            refine AF.icmp_le 164 dL_areJets_157 (by decide) (fun c3 => ?_) (fun c3 => ?_)
            · refine AF.iconst (0) dL_areJets_164 (by decide) ?_
              rw [hwl false (by rw [decide_eq_false c2, decide_eq_false (Int32.not_lt.mpr c3)]; rfl)]
              refine AF.icmp_ne 172 dL_areJets_165 (by decide) (fun c4 => ?_) (fun c4 => ?_)
              · exact absurd rfl c4
              · refine AF.iconst (1) dL_areJets_168 (by decide) ?_
                refine AF.goto 173 dL_areJets_169 (by decide) ?_
                exact k2 F bv l13 hK hX
            · refine AF.iconst (1) dL_areJets_160 (by decide) ?_
              refine AF.goto 165 dL_areJets_161 (by decide) ?_
              rw [hwl true (by rw [decide_eq_true (Int32.not_le.mp c3), Bool.or_true])]
              refine AF.icmp_ne 172 dL_areJets_165 (by decide) (fun c4 => ?_) (fun c4 => ?_)
              · exact absurd rfl c4
              · refine AF.iconst (1) dL_areJets_168 (by decide) ?_
                refine AF.goto 173 dL_areJets_169 (by decide) ?_
                exact k2 F bv l13 hK hX
      refine AF.iload dL_areJets_25 rfl ?_
      refine AF.iload_n dL_areJets_27 rfl ?_
      refine AF.icmp_ge 317 dL_areJets_28 (by decide) (fun c1 => ?_) (fun c1 => ?_)
      · rw [nI_leI (by omega) (by omega)] at c1; omega
      · refine AF.aload_n dL_areJets_31 rfl ?_
        refine AF.iload dL_areJets_32 rfl ?_
        refine AF.lx (mc' := 1) (ms' := 6) (bc := 18 * r + 559) (bs := 108 * r + 3354) dL_areJets_34 kx_L_307 (W_opening hK hjl) hX rfl rfl (Nat.le_of_ble_eq_true rfl) (by decide) rfl (fun F bv hK hX => ?_)
        refine AF.istore dL_areJets_37 (by decide) ?_
        refine AF.aload_n dL_areJets_39 rfl ?_
        refine AF.iload dL_areJets_40 rfl ?_
        refine AF.lx (mc' := 1) (ms' := 6) (bc := 18 * r + 558) (bs := 108 * r + 3348) dL_areJets_42 kx_L_320 (W_height hK hjl) hX rfl rfl (Nat.le_of_ble_eq_true rfl) (by decide) rfl (fun F bv hK hX => ?_)
        refine AF.istore dL_areJets_45 (by decide) ?_
        refine AF.iload_n dL_areJets_47 rfl ?_
        refine AF.iload dL_areJets_48 rfl ?_
        refine AF.iadd dL_areJets_50 ?_
        rw [nI_add]
        refine AF.istore_n dL_areJets_51 (by decide) ?_
        refine AF.iload dL_areJets_52 rfl ?_
        refine AF.aload_n dL_areJets_54 rfl ?_
        refine AF.iload dL_areJets_55 rfl ?_
        refine AF.lx (mc' := 1) (ms' := 6) (bc := 18 * r + 557) (bs := 108 * r + 3342) dL_areJets_57 kx_L_322 (W_isWild hK hjl) hX rfl rfl (Nat.le_of_ble_eq_true rfl) (by decide) rfl (fun F bv hK hX => ?_)
        refine AF.iadd dL_areJets_60 ?_
        rw [bI_add]
        refine AF.istore dL_areJets_61 (by decide) ?_
        refine AF.aload_n dL_areJets_63 rfl ?_
        refine AF.iload dL_areJets_64 rfl ?_
        refine AF.lx (mc' := 1) (ms' := 6) (bc := 18 * r + 556) (bs := 108 * r + 3336) dL_areJets_66 kx_L_324 (W_landing hK hjl) hX rfl rfl (Nat.le_of_ble_eq_true rfl) (by decide) rfl (fun F bv hK hX => ?_)
        refine AF.aload_n dL_areJets_69 rfl ?_
        refine AF.iload dL_areJets_70 rfl ?_
        refine AF.lx (mc' := 1) (ms' := 6) (bc := 18 * r + 555) (bs := 108 * r + 3330) dL_areJets_72 kx_L_305 (W_position hK hjl) hX rfl rfl (Nat.le_of_ble_eq_true rfl) (by decide) rfl (fun F bv hK hX => ?_)
        refine AF.isub dL_areJets_75 ?_
        rw [show lan Y.1.J Y.1.cap Y.1.w (dem Y.1.J) j - nI (jp Y.1.J j) = nI (hgt Y.1.cap (dem Y.1.J) (jo Y.1.J j)) * Y.1.w / 20 from add_sub_l _ _]
        refine AF.istore dL_areJets_76 (by decide) ?_
        refine AF.iload dL_areJets_78 rfl ?_
        refine AF.if_ne 96 dL_areJets_80 (by decide) (fun c2 => ?_) (fun c2 => ?_)
        · have h0 : ¬ dem Y.1.J = 0 := fun z => c2 (by rw [z]; rfl)
          have hm : 10 * jo Y.1.J j * sup Y.1.J Y.1.cap ≤ 100 * 100 := Nat.mul_le_mul (by omega) (by omega)
          refine AF.iload dL_areJets_96 rfl ?_
          refine AF.bipush (nI 10) dL_areJets_98 (by decide) ?_
          refine AF.iload dL_areJets_100 rfl ?_
          refine AF.imul dL_areJets_102 ?_
          refine AF.iload dL_areJets_103 rfl ?_
          refine AF.imul dL_areJets_105 ?_
          refine AF.iload dL_areJets_106 rfl ?_
          rw [pk_mul, pk_mul]
          refine AF.idiv dL_areJets_108 (nI_ne0 (by omega) (by omega)) ?_
          rw [pk_div (by omega) (by omega) (by omega), ← hgt_s h0]
          refine AF.icmp_ne 116 dL_areJets_109 (by decide) (fun c3 => ?_) (fun c3 => ?_)
          · exact absurd rfl c3
          · refine AF.iconst (1) dL_areJets_112 (by decide) ?_
            refine AF.goto 117 dL_areJets_113 (by decide) ?_
            exact k1 F bv hK hX
        · have h0 : dem Y.1.J = 0 := by
            have c2 : nI (dem Y.1.J) = nI 0 := c2
            rwa [nI_eq (by omega) (by omega)] at c2
          refine AF.iload dL_areJets_83 rfl ?_
          refine AF.if_ne 92 dL_areJets_85 (by decide) (fun c3 => ?_) (fun c3 => ?_)
          · exact absurd (by rw [hgt_0 h0 hjl]; rfl) c3
          · refine AF.iconst (1) dL_areJets_88 (by decide) ?_
            refine AF.goto 117 dL_areJets_89 (by decide) ?_
            exact k1 F bv hK hX
  refine AC.of [some (.ref c), some (.int p), none, none, none, none, none, none, none, none, none, none, none, none, none, none] rfl (by decide) (Nat.le_of_ble_eq_true rfl) rfl ?_
  have hX : XF c bv0 bv0 F0 F0 := XF.rf
  have hK := hK0
  refine AF.aload_n dL_areJets_0 rfl ?_
  refine AF.lv (mc' := 0) (ms' := 0) (bc := 722) (bs := 4332) dL_areJets_1 kv_L_230 (Y_jetCount hK) hK.c0.choose_spec rfl hX rfl rfl (Nat.le_of_ble_eq_true rfl) (by decide) rfl (fun F bv hK hX => ?_)
  refine AF.istore_n dL_areJets_4 (by decide) ?_
  refine AF.iconst (nI 0) dL_areJets_5 (by decide) ?_
  refine AF.istore_n dL_areJets_6 (by decide) ?_
  refine AF.iconst (nI 0) dL_areJets_7 (by decide) ?_
  refine AF.istore dL_areJets_8 (by decide) ?_
  refine AF.aload_n dL_areJets_10 rfl ?_
  refine AF.lv (mc' := 0) (ms' := 0) (bc := 722) (bs := 4332) dL_areJets_11 kv_L_192 (Y_demand hK) hK.c0.choose_spec rfl hX rfl rfl (Nat.le_of_ble_eq_true rfl) (by decide) rfl (fun F bv hK hX => ?_)
  refine AF.istore dL_areJets_14 (by decide) ?_
  refine AF.aload_n dL_areJets_16 rfl ?_
  refine AF.lv (mc' := 0) (ms' := 0) (bc := 722) (bs := 4332) dL_areJets_17 kv_L_317 (Y_supply hK) hK.c0.choose_spec rfl hX rfl rfl (Nat.le_of_ble_eq_true rfl) (by decide) rfl (fun F bv hK hX => ?_)
  refine AF.istore dL_areJets_20 (by decide) ?_
  refine AF.iconst (nI 0) dL_areJets_22 (by decide) ?_
  refine AF.istore dL_areJets_23 (by decide) ?_
  exact lp1 Y.1.J.length 0 F bv _ _ none none none none none none none none (by omega) (by omega) (by omega) hK hX
end

