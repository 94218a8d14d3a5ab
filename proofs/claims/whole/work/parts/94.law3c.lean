/-! The law's calls 30 to 44: from one state known to the next. -/
section
variable {G : GA} {F : AH} {b c L i B bc bs : Nat} {xs : Nat → Int32} {X : XS} {R : AR → AH → Prop}
set_option maxRecDepth 100000 in
set_option maxHeartbeats 2000000 in
theorem LC30_ok (hL : LI G c F X B) (ha : gN G ≤ c) (hs : SCR G b L xs) (hi : i + 4 < L) (hl : L ≤ 2560) (hB : B + 2500 ≤ 2 ^ 21) (l6 l7 l8 : Option Value) (next : ∀ F' X' l6 l7 l8, LI G c F' X' (B + 2500) → AF G mL_law 13 bc bs R F' 2880 [some (.ref b), some (.ref c), some (.ref (c + 131)), some (.ref (c + 140)), some (.ref (c + 141)), some (.int (nI i)), l6, l7, l8] []) : AF G mL_law 13 (bc + 50) (bs + 6964) R F 1505 [some (.ref b), some (.ref c), some (.ref (c + 131)), some (.ref (c + 140)), some (.ref (c + 141)), some (.int (nI i)), l6, l7, l8] [] := by
  obtain ⟨bv, th, f, g, hC, hM, ⟨ho, hod⟩, hbv, hz, hX⟩ := hL
  obtain ⟨x, ex⟩ : ∃ z, z = xs (i + 1) := ⟨_, rfl⟩
  obtain ⟨y, ey⟩ : ∃ z, z = xs (i + 2) := ⟨_, rfl⟩
  have hpr : (if hsB X.sg.Fg x y = true then 0 else 1) ≤ 3 := by split <;> omega
  obtain ⟨hn, hf, ⟨c0, -⟩, -⟩ := id hC
  refine AF.less (d' := 13) (bc' := bc + 1) (bs' := bs + 6) ?_ (Nat.le_refl _) (by omega) (by omega)
  refine AF.aload_n dL_law_1505 rfl ?_
  refine AF.aload_n dL_law_1506 rfl ?_
  refine AF.iload dL_law_1507 rfl ?_
  refine AF.iconst (nI 1) dL_law_1509 (by decide) ?_
  refine AF.iadd dL_law_1510 ?_
  rw [nI_add]
  refine AF.ialoadT (v := .int x) (i + 1) dL_law_1511 hs rfl (by omega) (by omega) (congrArg Value.int ex.symm) ?_
  refine AF.aload_n dL_law_1512 rfl ?_
  refine AF.iload dL_law_1513 rfl ?_
  refine AF.iconst (nI 2) dL_law_1515 (by decide) ?_
  refine AF.iadd dL_law_1516 ?_
  rw [nI_add]
  refine AF.ialoadT (v := .int y) (i + 2) dL_law_1517 hs rfl (by omega) (by omega) (congrArg Value.int ey.symm) ?_
  refine AF.aload_n dL_law_1518 rfl ?_
  refine AF.callSX (bc := bc) (bs := bs) (mc' := 1) (ms' := 6) dL_law_1519 kx_L_269 (L_stepDelay_ok (B := B) hC x y ho (by omega) (by omega) (by omega) (by omega)) rfl rfl (Nat.le_of_ble_eq_true rfl) (by decide) rfl (fun E F9 q => nomatch q.1) (fun v F2 q => ?_)
  obtain ⟨q, bv2, hC2, ⟨x1, x2, x3⟩, f2, hr2, hz2⟩ := q
  cases q
  have hbv2 : bv2 = c + 42 ∨ c + 142 ≤ bv2 := by omega
  have hM2 := hM.kept (F' := F2) (fun q a b => x3 q (by omega) (by omega) (by omega) (by omega))
  have ho2 := hr2
  have hod2 := (x3 (c + 141) (by omega) (by omega) (by omega) (by omega)).trans hod
  obtain ⟨g2, f9, A2, ⟨m0, -⟩, -⟩ := id hM2
  refine AF.istore dL_law_1522 (by decide) ?_
  refine AF.aload_n dL_law_1524 rfl ?_
  refine AF.aload_n dL_law_1525 rfl ?_
  refine AF.iload dL_law_1526 rfl ?_
  refine AF.iconst (nI 1) dL_law_1528 (by decide) ?_
  refine AF.iadd dL_law_1529 ?_
  rw [nI_add]
  refine AF.ialoadT (v := .int x) (i + 1) dL_law_1530 hs rfl (by omega) (by omega) (congrArg Value.int ex.symm) ?_
  refine AF.aload_n dL_law_1531 rfl ?_
  refine AF.iload dL_law_1532 rfl ?_
  refine AF.iconst (nI 2) dL_law_1534 (by decide) ?_
  refine AF.iadd dL_law_1535 ?_
  rw [nI_add]
  refine AF.ialoadT (v := .int y) (i + 2) dL_law_1536 hs rfl (by omega) (by omega) (congrArg Value.int ey.symm) ?_
  refine AF.vw dL_law_1537 kv_L_271 (X9_stepDelay_ok hM2 (by omega) x y) (by assumption) rfl rfl rfl (Nat.le_of_ble_eq_true rfl) (by decide) rfl (fun E F9 q => nomatch q.1) (fun v F q => ?_)
  obtain ⟨q, hM3, q3⟩ := q
  cases q
  have hC3 := hC2.kept (fun q a b => q3.2 q (by omega)) (q3.2 bv2 (by omega)) (Nat.le_of_eq q3.1.symm)
  have ho3 := (q3.2 (c + 140) (by omega)).trans ho2
  have hod3 := (q3.2 (c + 141) (by omega)).trans hod2
  clear m0
  obtain ⟨g3, f9, A3, ⟨m0, -⟩, -⟩ := id hM3
  have hLI : LI G c F X (B + 2500) := ⟨bv2, _, f2, g, hC3, hM3, ⟨ho3, hod3⟩, hbv2, by have := q3.1; omega, hX.mono (by omega) hB⟩
  refine AF.istore dL_law_1540 (by decide) ?_
  refine AF.aload_n dL_law_1542 rfl ?_
  refine AF.v1 dL_law_1543 kv_L_163 ((X9_thrown_ok hM3)) (by assumption) rfl rfl rfl (Nat.le_of_ble_eq_true rfl) (by decide) rfl ?_
  refine AF.iload dL_law_1546 rfl ?_
  refine AF.icmp_eq 1553 dL_law_1548 (by decide) (fun h1 => ?_) (fun h1 => ?_)
  · refine AF.iload dL_law_1553 rfl ?_
    refine AF.if_ne 1570 dL_law_1555 (by decide) (fun h2 => ?_) (fun h2 => ?_)
    · refine AF.goto 2880 dL_law_1570 (by decide) ?_
      exact next F _ _ _ _ hLI
    · have h2 : nI (if hsB X.sg.Fg x y = true then 0 else 1) = nI 0 := h2
      rw [nI_eq (by omega) (by omega)] at h2
      refine AF.aload_n dL_law_1558 rfl ?_
      refine AF.iconst (nI 0) dL_law_1559 (by decide) ?_
      refine AF.laload 0 dL_law_1560 ho3 rfl (by omega) (by decide) ?_
      rw [hz2 h2]
      refine AF.iload dL_law_1561 rfl ?_
      refine AF.i2l dL_law_1563 ?_
      rw [if_pos h2]
      refine AF.lcmp dL_law_1564 ?_
      rw [lcmp_self]
      refine AF.if_eq 1570 dL_law_1565 (by decide) (fun h3 => ?_) (fun h3 => ?_)
      · refine AF.goto 2880 dL_law_1570 (by decide) ?_
        exact next F _ _ _ _ hLI
      · exact absurd rfl h3
  · exact absurd rfl h1
set_option maxRecDepth 100000 in
set_option maxHeartbeats 2000000 in
theorem LC31_ok (hL : LI G c F X B) (ha : gN G ≤ c) (hs : SCR G b L xs) (hi : i + 4 < L) (hl : L ≤ 2560) (hB : B + 2500 ≤ 2 ^ 21) (l6 l7 l8 : Option Value) (next : ∀ F' X' l6 l7 l8, LI G c F' X' (B + 2500) → AF G mL_law 13 bc bs R F' 2880 [some (.ref b), some (.ref c), some (.ref (c + 131)), some (.ref (c + 140)), some (.ref (c + 141)), some (.int (nI i)), l6, l7, l8] []) : AF G mL_law 13 (bc + 50) (bs + 6964) R F 1573 [some (.ref b), some (.ref c), some (.ref (c + 131)), some (.ref (c + 140)), some (.ref (c + 141)), some (.int (nI i)), l6, l7, l8] [] := by
  obtain ⟨bv, th, f, g, hC, hM, ⟨ho, hod⟩, hbv, hz, hX⟩ := hL
  obtain ⟨x, ex⟩ : ∃ z, z = xs (i + 1) := ⟨_, rfl⟩
  obtain ⟨y, ey⟩ : ∃ z, z = xs (i + 2) := ⟨_, rfl⟩
  have hpr : (if hsB X.sg.Fg x y = true then 0 else 1) ≤ 3 := by split <;> omega
  obtain ⟨hn, hf, ⟨c0, -⟩, -⟩ := id hC
  refine AF.less (d' := 13) (bc' := bc + 1) (bs' := bs + 6) ?_ (Nat.le_refl _) (by omega) (by omega)
  refine AF.aload_n dL_law_1573 rfl ?_
  refine AF.aload_n dL_law_1574 rfl ?_
  refine AF.iload dL_law_1575 rfl ?_
  refine AF.iconst (nI 1) dL_law_1577 (by decide) ?_
  refine AF.iadd dL_law_1578 ?_
  rw [nI_add]
  refine AF.ialoadT (v := .int x) (i + 1) dL_law_1579 hs rfl (by omega) (by omega) (congrArg Value.int ex.symm) ?_
  refine AF.aload_n dL_law_1580 rfl ?_
  refine AF.iload dL_law_1581 rfl ?_
  refine AF.iconst (nI 2) dL_law_1583 (by decide) ?_
  refine AF.iadd dL_law_1584 ?_
  rw [nI_add]
  refine AF.ialoadT (v := .int y) (i + 2) dL_law_1585 hs rfl (by omega) (by omega) (congrArg Value.int ey.symm) ?_
  refine AF.aload_n dL_law_1586 rfl ?_
  refine AF.callSX (bc := bc) (bs := bs) (mc' := 1) (ms' := 6) dL_law_1587 kx_L_272 (L_stepJet_ok (B := B) hC x y ho (by omega) (by omega) (by omega) (by omega)) rfl rfl (Nat.le_of_ble_eq_true rfl) (by decide) rfl (fun E F9 q => nomatch q.1) (fun v F2 q => ?_)
  obtain ⟨q, bv2, hC2, ⟨x1, x2, x3⟩, f2, hr2, hz2⟩ := q
  cases q
  have hbv2 : bv2 = c + 42 ∨ c + 142 ≤ bv2 := by omega
  have hM2 := hM.kept (F' := F2) (fun q a b => x3 q (by omega) (by omega) (by omega) (by omega))
  have ho2 := hr2
  have hod2 := (x3 (c + 141) (by omega) (by omega) (by omega) (by omega)).trans hod
  obtain ⟨g2, f9, A2, ⟨m0, -⟩, -⟩ := id hM2
  refine AF.istore dL_law_1590 (by decide) ?_
  refine AF.aload_n dL_law_1592 rfl ?_
  refine AF.aload_n dL_law_1593 rfl ?_
  refine AF.iload dL_law_1594 rfl ?_
  refine AF.iconst (nI 1) dL_law_1596 (by decide) ?_
  refine AF.iadd dL_law_1597 ?_
  rw [nI_add]
  refine AF.ialoadT (v := .int x) (i + 1) dL_law_1598 hs rfl (by omega) (by omega) (congrArg Value.int ex.symm) ?_
  refine AF.aload_n dL_law_1599 rfl ?_
  refine AF.iload dL_law_1600 rfl ?_
  refine AF.iconst (nI 2) dL_law_1602 (by decide) ?_
  refine AF.iadd dL_law_1603 ?_
  rw [nI_add]
  refine AF.ialoadT (v := .int y) (i + 2) dL_law_1604 hs rfl (by omega) (by omega) (congrArg Value.int ey.symm) ?_
  refine AF.vw dL_law_1605 kv_L_274 (X9_stepJet_ok hM2 (by omega) x y) (by assumption) rfl rfl rfl (Nat.le_of_ble_eq_true rfl) (by decide) rfl (fun E F9 q => nomatch q.1) (fun v F q => ?_)
  obtain ⟨q, hM3, q3⟩ := q
  cases q
  have hC3 := hC2.kept (fun q a b => q3.2 q (by omega)) (q3.2 bv2 (by omega)) (Nat.le_of_eq q3.1.symm)
  have ho3 := (q3.2 (c + 140) (by omega)).trans ho2
  have hod3 := (q3.2 (c + 141) (by omega)).trans hod2
  clear m0
  obtain ⟨g3, f9, A3, ⟨m0, -⟩, -⟩ := id hM3
  have hLI : LI G c F X (B + 2500) := ⟨bv2, _, f2, g, hC3, hM3, ⟨ho3, hod3⟩, hbv2, by have := q3.1; omega, hX.mono (by omega) hB⟩
  refine AF.istore dL_law_1608 (by decide) ?_
  refine AF.aload_n dL_law_1610 rfl ?_
  refine AF.v1 dL_law_1611 kv_L_163 ((X9_thrown_ok hM3)) (by assumption) rfl rfl rfl (Nat.le_of_ble_eq_true rfl) (by decide) rfl ?_
  refine AF.iload dL_law_1614 rfl ?_
  refine AF.icmp_eq 1621 dL_law_1616 (by decide) (fun h1 => ?_) (fun h1 => ?_)
  · refine AF.iload dL_law_1621 rfl ?_
    refine AF.if_ne 1638 dL_law_1623 (by decide) (fun h2 => ?_) (fun h2 => ?_)
    · refine AF.goto 2880 dL_law_1638 (by decide) ?_
      exact next F _ _ _ _ hLI
    · have h2 : nI (if hsB X.sg.Fg x y = true then 0 else 1) = nI 0 := h2
      rw [nI_eq (by omega) (by omega)] at h2
      refine AF.aload_n dL_law_1626 rfl ?_
      refine AF.iconst (nI 0) dL_law_1627 (by decide) ?_
      refine AF.laload 0 dL_law_1628 ho3 rfl (by omega) (by decide) ?_
      rw [hz2 h2]
      refine AF.iload dL_law_1629 rfl ?_
      refine AF.i2l dL_law_1631 ?_
      rw [if_pos h2]
      refine AF.lcmp dL_law_1632 ?_
      rw [lcmp_self]
      refine AF.if_eq 1638 dL_law_1633 (by decide) (fun h3 => ?_) (fun h3 => ?_)
      · refine AF.goto 2880 dL_law_1638 (by decide) ?_
        exact next F _ _ _ _ hLI
      · exact absurd rfl h3
  · exact absurd rfl h1
set_option maxRecDepth 100000 in
set_option maxHeartbeats 2000000 in
theorem LC32_ok (hL : LI G c F X B) (ha : gN G ≤ c) (hs : SCR G b L xs) (hi : i + 4 < L) (hl : L ≤ 2560) (hB : B + 2500 ≤ 2 ^ 21) (l6 l7 l8 : Option Value) (next : ∀ F' X' l6 l7 l8, LI G c F' X' (B + 2500) → AF G mL_law 13 bc bs R F' 2880 [some (.ref b), some (.ref c), some (.ref (c + 131)), some (.ref (c + 140)), some (.ref (c + 141)), some (.int (nI i)), l6, l7, l8] []) : AF G mL_law 13 (bc + 50) (bs + 6964) R F 1641 [some (.ref b), some (.ref c), some (.ref (c + 131)), some (.ref (c + 140)), some (.ref (c + 141)), some (.int (nI i)), l6, l7, l8] [] := by
  obtain ⟨bv, th, f, g, hC, hM, ⟨ho, hod⟩, hbv, hz, hX⟩ := hL
  obtain ⟨x, ex⟩ : ∃ z, z = xs (i + 1) := ⟨_, rfl⟩
  obtain ⟨y, ey⟩ : ∃ z, z = xs (i + 2) := ⟨_, rfl⟩
  have hpr : (if hsB X.sg.Fg x y = true then 0 else 1) ≤ 3 := by split <;> omega
  obtain ⟨hn, hf, ⟨c0, -⟩, -⟩ := id hC
  refine AF.less (d' := 13) (bc' := bc + 1) (bs' := bs + 6) ?_ (Nat.le_refl _) (by omega) (by omega)
  refine AF.aload_n dL_law_1641 rfl ?_
  refine AF.aload_n dL_law_1642 rfl ?_
  refine AF.iload dL_law_1643 rfl ?_
  refine AF.iconst (nI 1) dL_law_1645 (by decide) ?_
  refine AF.iadd dL_law_1646 ?_
  rw [nI_add]
  refine AF.ialoadT (v := .int x) (i + 1) dL_law_1647 hs rfl (by omega) (by omega) (congrArg Value.int ex.symm) ?_
  refine AF.aload_n dL_law_1648 rfl ?_
  refine AF.iload dL_law_1649 rfl ?_
  refine AF.iconst (nI 2) dL_law_1651 (by decide) ?_
  refine AF.iadd dL_law_1652 ?_
  rw [nI_add]
  refine AF.ialoadT (v := .int y) (i + 2) dL_law_1653 hs rfl (by omega) (by omega) (congrArg Value.int ey.symm) ?_
  refine AF.aload_n dL_law_1654 rfl ?_
  refine AF.callSX (bc := bc) (bs := bs) (mc' := 1) (ms' := 6) dL_law_1655 kx_L_275 (L_stepOpening_ok (B := B) hC x y ho (by omega) (by omega) (by omega) (by omega)) rfl rfl (Nat.le_of_ble_eq_true rfl) (by decide) rfl (fun E F9 q => nomatch q.1) (fun v F2 q => ?_)
  obtain ⟨q, bv2, hC2, ⟨x1, x2, x3⟩, f2, hr2, hz2⟩ := q
  cases q
  have hbv2 : bv2 = c + 42 ∨ c + 142 ≤ bv2 := by omega
  have hM2 := hM.kept (F' := F2) (fun q a b => x3 q (by omega) (by omega) (by omega) (by omega))
  have ho2 := hr2
  have hod2 := (x3 (c + 141) (by omega) (by omega) (by omega) (by omega)).trans hod
  obtain ⟨g2, f9, A2, ⟨m0, -⟩, -⟩ := id hM2
  refine AF.istore dL_law_1658 (by decide) ?_
  refine AF.aload_n dL_law_1660 rfl ?_
  refine AF.aload_n dL_law_1661 rfl ?_
  refine AF.iload dL_law_1662 rfl ?_
  refine AF.iconst (nI 1) dL_law_1664 (by decide) ?_
  refine AF.iadd dL_law_1665 ?_
  rw [nI_add]
  refine AF.ialoadT (v := .int x) (i + 1) dL_law_1666 hs rfl (by omega) (by omega) (congrArg Value.int ex.symm) ?_
  refine AF.aload_n dL_law_1667 rfl ?_
  refine AF.iload dL_law_1668 rfl ?_
  refine AF.iconst (nI 2) dL_law_1670 (by decide) ?_
  refine AF.iadd dL_law_1671 ?_
  rw [nI_add]
  refine AF.ialoadT (v := .int y) (i + 2) dL_law_1672 hs rfl (by omega) (by omega) (congrArg Value.int ey.symm) ?_
  refine AF.vw dL_law_1673 kv_L_277 (X9_stepOpening_ok hM2 (by omega) x y) (by assumption) rfl rfl rfl (Nat.le_of_ble_eq_true rfl) (by decide) rfl (fun E F9 q => nomatch q.1) (fun v F q => ?_)
  obtain ⟨q, hM3, q3⟩ := q
  cases q
  have hC3 := hC2.kept (fun q a b => q3.2 q (by omega)) (q3.2 bv2 (by omega)) (Nat.le_of_eq q3.1.symm)
  have ho3 := (q3.2 (c + 140) (by omega)).trans ho2
  have hod3 := (q3.2 (c + 141) (by omega)).trans hod2
  clear m0
  obtain ⟨g3, f9, A3, ⟨m0, -⟩, -⟩ := id hM3
  have hLI : LI G c F X (B + 2500) := ⟨bv2, _, f2, g, hC3, hM3, ⟨ho3, hod3⟩, hbv2, by have := q3.1; omega, hX.mono (by omega) hB⟩
  refine AF.istore dL_law_1676 (by decide) ?_
  refine AF.aload_n dL_law_1678 rfl ?_
  refine AF.v1 dL_law_1679 kv_L_163 ((X9_thrown_ok hM3)) (by assumption) rfl rfl rfl (Nat.le_of_ble_eq_true rfl) (by decide) rfl ?_
  refine AF.iload dL_law_1682 rfl ?_
  refine AF.icmp_eq 1689 dL_law_1684 (by decide) (fun h1 => ?_) (fun h1 => ?_)
  · refine AF.iload dL_law_1689 rfl ?_
    refine AF.if_ne 1706 dL_law_1691 (by decide) (fun h2 => ?_) (fun h2 => ?_)
    · refine AF.goto 2880 dL_law_1706 (by decide) ?_
      exact next F _ _ _ _ hLI
    · have h2 : nI (if hsB X.sg.Fg x y = true then 0 else 1) = nI 0 := h2
      rw [nI_eq (by omega) (by omega)] at h2
      refine AF.aload_n dL_law_1694 rfl ?_
      refine AF.iconst (nI 0) dL_law_1695 (by decide) ?_
      refine AF.laload 0 dL_law_1696 ho3 rfl (by omega) (by decide) ?_
      rw [hz2 h2]
      refine AF.iload dL_law_1697 rfl ?_
      refine AF.i2l dL_law_1699 ?_
      rw [if_pos h2]
      refine AF.lcmp dL_law_1700 ?_
      rw [lcmp_self]
      refine AF.if_eq 1706 dL_law_1701 (by decide) (fun h3 => ?_) (fun h3 => ?_)
      · refine AF.goto 2880 dL_law_1706 (by decide) ?_
        exact next F _ _ _ _ hLI
      · exact absurd rfl h3
  · exact absurd rfl h1
set_option maxRecDepth 100000 in
set_option maxHeartbeats 2000000 in
theorem LC33_ok (hL : LI G c F X B) (ha : gN G ≤ c) (hs : SCR G b L xs) (hi : i + 4 < L) (hl : L ≤ 2560) (hB : B + 2500 ≤ 2 ^ 21) (l6 l7 l8 : Option Value) (next : ∀ F' X' l6 l7 l8, LI G c F' X' (B + 2500) → AF G mL_law 13 bc bs R F' 2880 [some (.ref b), some (.ref c), some (.ref (c + 131)), some (.ref (c + 140)), some (.ref (c + 141)), some (.int (nI i)), l6, l7, l8] []) : AF G mL_law 13 (bc + 50) (bs + 6964) R F 1709 [some (.ref b), some (.ref c), some (.ref (c + 131)), some (.ref (c + 140)), some (.ref (c + 141)), some (.int (nI i)), l6, l7, l8] [] := by
  obtain ⟨bv, th, f, g, hC, hM, ⟨ho, hod⟩, hbv, hz, hX⟩ := hL
  obtain ⟨x, ex⟩ : ∃ z, z = xs (i + 1) := ⟨_, rfl⟩
  have hpr : (if hasB X.sg.Fg.length x = true then 0 else 1) ≤ 3 := by split <;> omega
  obtain ⟨hn, hf, ⟨c0, -⟩, -⟩ := id hC
  refine AF.less (d' := 13) (bc' := bc + 1) (bs' := bs + 6) ?_ (Nat.le_refl _) (by omega) (by omega)
  refine AF.aload_n dL_law_1709 rfl ?_
  refine AF.aload_n dL_law_1710 rfl ?_
  refine AF.iload dL_law_1711 rfl ?_
  refine AF.iconst (nI 1) dL_law_1713 (by decide) ?_
  refine AF.iadd dL_law_1714 ?_
  rw [nI_add]
  refine AF.ialoadT (v := .int x) (i + 1) dL_law_1715 hs rfl (by omega) (by omega) (congrArg Value.int ex.symm) ?_
  refine AF.aload_n dL_law_1716 rfl ?_
  refine AF.callSX (bc := bc) (bs := bs) (mc' := 1) (ms' := 6) dL_law_1717 kx_L_278 (L_figureLength_ok (B := B) hC x hX.1 ho (by omega) (by omega) (by omega) (by omega)) rfl rfl (Nat.le_of_ble_eq_true rfl) (by decide) rfl (fun E F9 q => nomatch q.1) (fun v F2 q => ?_)
  obtain ⟨q, bv2, hC2, ⟨x1, x2, x3⟩, f2, hr2, hz2⟩ := q
  cases q
  have hbv2 : bv2 = c + 42 ∨ c + 142 ≤ bv2 := by omega
  have hM2 := hM.kept (F' := F2) (fun q a b => x3 q (by omega) (by omega) (by omega) (by omega))
  have ho2 := hr2
  have hod2 := (x3 (c + 141) (by omega) (by omega) (by omega) (by omega)).trans hod
  obtain ⟨g2, f9, A2, ⟨m0, -⟩, -⟩ := id hM2
  refine AF.istore dL_law_1720 (by decide) ?_
  refine AF.aload_n dL_law_1722 rfl ?_
  refine AF.aload_n dL_law_1723 rfl ?_
  refine AF.iload dL_law_1724 rfl ?_
  refine AF.iconst (nI 1) dL_law_1726 (by decide) ?_
  refine AF.iadd dL_law_1727 ?_
  rw [nI_add]
  refine AF.ialoadT (v := .int x) (i + 1) dL_law_1728 hs rfl (by omega) (by omega) (congrArg Value.int ex.symm) ?_
  refine AF.vw dL_law_1729 kv_L_280 (X9_figureLength_ok hM2 (by omega) hX.1 x) (by assumption) rfl rfl rfl (Nat.le_of_ble_eq_true rfl) (by decide) rfl (fun E F9 q => nomatch q.1) (fun v F q => ?_)
  obtain ⟨q, hM3, q3⟩ := q
  cases q
  have hC3 := hC2.kept (fun q a b => q3.2 q (by omega)) (q3.2 bv2 (by omega)) (Nat.le_of_eq q3.1.symm)
  have ho3 := (q3.2 (c + 140) (by omega)).trans ho2
  have hod3 := (q3.2 (c + 141) (by omega)).trans hod2
  clear m0
  obtain ⟨g3, f9, A3, ⟨m0, -⟩, -⟩ := id hM3
  have hLI : LI G c F X (B + 2500) := ⟨bv2, _, f2, g, hC3, hM3, ⟨ho3, hod3⟩, hbv2, by have := q3.1; omega, hX.mono (by omega) hB⟩
  refine AF.istore dL_law_1732 (by decide) ?_
  refine AF.aload_n dL_law_1734 rfl ?_
  refine AF.v1 dL_law_1735 kv_L_163 ((X9_thrown_ok hM3)) (by assumption) rfl rfl rfl (Nat.le_of_ble_eq_true rfl) (by decide) rfl ?_
  refine AF.iload dL_law_1738 rfl ?_
  refine AF.icmp_eq 1745 dL_law_1740 (by decide) (fun h1 => ?_) (fun h1 => ?_)
  · refine AF.iload dL_law_1745 rfl ?_
    refine AF.if_ne 1762 dL_law_1747 (by decide) (fun h2 => ?_) (fun h2 => ?_)
    · refine AF.goto 2880 dL_law_1762 (by decide) ?_
      exact next F _ _ _ _ hLI
    · have h2 : nI (if hasB X.sg.Fg.length x = true then 0 else 1) = nI 0 := h2
      rw [nI_eq (by omega) (by omega)] at h2
      refine AF.aload_n dL_law_1750 rfl ?_
      refine AF.iconst (nI 0) dL_law_1751 (by decide) ?_
      refine AF.laload 0 dL_law_1752 ho3 rfl (by omega) (by decide) ?_
      rw [hz2 h2]
      refine AF.iload dL_law_1753 rfl ?_
      refine AF.i2l dL_law_1755 ?_
      rw [if_pos h2]
      refine AF.lcmp dL_law_1756 ?_
      rw [lcmp_self]
      refine AF.if_eq 1762 dL_law_1757 (by decide) (fun h3 => ?_) (fun h3 => ?_)
      · refine AF.goto 2880 dL_law_1762 (by decide) ?_
        exact next F _ _ _ _ hLI
      · exact absurd rfl h3
  · exact absurd rfl h1
set_option maxRecDepth 100000 in
set_option maxHeartbeats 2000000 in
theorem LC34_ok (hL : LI G c F X B) (ha : gN G ≤ c) (hs : SCR G b L xs) (hi : i + 4 < L) (hl : L ≤ 2560) (hB : B + 2500 ≤ 2 ^ 21) (l6 l7 l8 : Option Value) (next : ∀ F' X' l6 l7 l8, LI G c F' X' (B + 2500) → AF G mL_law 13 bc bs R F' 2880 [some (.ref b), some (.ref c), some (.ref (c + 131)), some (.ref (c + 140)), some (.ref (c + 141)), some (.int (nI i)), l6, l7, l8] []) : AF G mL_law 13 (bc + 50) (bs + 6964) R F 1765 [some (.ref b), some (.ref c), some (.ref (c + 131)), some (.ref (c + 140)), some (.ref (c + 141)), some (.int (nI i)), l6, l7, l8] [] := by
  obtain ⟨bv, th, f, g, hC, hM, ⟨ho, hod⟩, hbv, hz, hX⟩ := hL
  obtain ⟨x, ex⟩ : ∃ z, z = xs (i + 1) := ⟨_, rfl⟩
  have hpr : (if hasB X.sg.J.length x = true then 0 else 1) ≤ 3 := by split <;> omega
  obtain ⟨hn, hf, ⟨c0, -⟩, -⟩ := id hC
  refine AF.less (d' := 13) (bc' := bc + 1) (bs' := bs + 6) ?_ (Nat.le_refl _) (by omega) (by omega)
  refine AF.aload_n dL_law_1765 rfl ?_
  refine AF.aload_n dL_law_1766 rfl ?_
  refine AF.iload dL_law_1767 rfl ?_
  refine AF.iconst (nI 1) dL_law_1769 (by decide) ?_
  refine AF.iadd dL_law_1770 ?_
  rw [nI_add]
  refine AF.ialoadT (v := .int x) (i + 1) dL_law_1771 hs rfl (by omega) (by omega) (congrArg Value.int ex.symm) ?_
  refine AF.aload_n dL_law_1772 rfl ?_
  refine AF.callSX (bc := bc) (bs := bs) (mc' := 1) (ms' := 6) dL_law_1773 kx_L_281 (L_figuresUsing_ok (B := B) hC x hX.1 ho (by omega) (by omega) (by omega) (by omega)) rfl rfl (Nat.le_of_ble_eq_true rfl) (by decide) rfl (fun E F9 q => nomatch q.1) (fun v F2 q => ?_)
  obtain ⟨q, bv2, hC2, ⟨x1, x2, x3⟩, f2, hr2, hz2⟩ := q
  cases q
  have hbv2 : bv2 = c + 42 ∨ c + 142 ≤ bv2 := by omega
  have hM2 := hM.kept (F' := F2) (fun q a b => x3 q (by omega) (by omega) (by omega) (by omega))
  have ho2 := hr2
  have hod2 := (x3 (c + 141) (by omega) (by omega) (by omega) (by omega)).trans hod
  obtain ⟨g2, f9, A2, ⟨m0, -⟩, -⟩ := id hM2
  refine AF.istore dL_law_1776 (by decide) ?_
  refine AF.aload_n dL_law_1778 rfl ?_
  refine AF.aload_n dL_law_1779 rfl ?_
  refine AF.iload dL_law_1780 rfl ?_
  refine AF.iconst (nI 1) dL_law_1782 (by decide) ?_
  refine AF.iadd dL_law_1783 ?_
  rw [nI_add]
  refine AF.ialoadT (v := .int x) (i + 1) dL_law_1784 hs rfl (by omega) (by omega) (congrArg Value.int ex.symm) ?_
  refine AF.vw dL_law_1785 kv_L_283 (X9_figuresUsing_ok hM2 (by omega) hX.1 x) (by assumption) rfl rfl rfl (Nat.le_of_ble_eq_true rfl) (by decide) rfl (fun E F9 q => nomatch q.1) (fun v F q => ?_)
  obtain ⟨q, hM3, q3⟩ := q
  cases q
  have hC3 := hC2.kept (fun q a b => q3.2 q (by omega)) (q3.2 bv2 (by omega)) (Nat.le_of_eq q3.1.symm)
  have ho3 := (q3.2 (c + 140) (by omega)).trans ho2
  have hod3 := (q3.2 (c + 141) (by omega)).trans hod2
  clear m0
  obtain ⟨g3, f9, A3, ⟨m0, -⟩, -⟩ := id hM3
  have hLI : LI G c F X (B + 2500) := ⟨bv2, _, f2, g, hC3, hM3, ⟨ho3, hod3⟩, hbv2, by have := q3.1; omega, hX.mono (by omega) hB⟩
  refine AF.istore dL_law_1788 (by decide) ?_
  refine AF.aload_n dL_law_1790 rfl ?_
  refine AF.v1 dL_law_1791 kv_L_163 ((X9_thrown_ok hM3)) (by assumption) rfl rfl rfl (Nat.le_of_ble_eq_true rfl) (by decide) rfl ?_
  refine AF.iload dL_law_1794 rfl ?_
  refine AF.icmp_eq 1801 dL_law_1796 (by decide) (fun h1 => ?_) (fun h1 => ?_)
  · refine AF.iload dL_law_1801 rfl ?_
    refine AF.if_ne 1818 dL_law_1803 (by decide) (fun h2 => ?_) (fun h2 => ?_)
    · refine AF.goto 2880 dL_law_1818 (by decide) ?_
      exact next F _ _ _ _ hLI
    · have h2 : nI (if hasB X.sg.J.length x = true then 0 else 1) = nI 0 := h2
      rw [nI_eq (by omega) (by omega)] at h2
      refine AF.aload_n dL_law_1806 rfl ?_
      refine AF.iconst (nI 0) dL_law_1807 (by decide) ?_
      refine AF.laload 0 dL_law_1808 ho3 rfl (by omega) (by decide) ?_
      rw [hz2 h2]
      refine AF.iload dL_law_1809 rfl ?_
      refine AF.i2l dL_law_1811 ?_
      rw [if_pos h2]
      refine AF.lcmp dL_law_1812 ?_
      rw [lcmp_self]
      refine AF.if_eq 1818 dL_law_1813 (by decide) (fun h3 => ?_) (fun h3 => ?_)
      · refine AF.goto 2880 dL_law_1818 (by decide) ?_
        exact next F _ _ _ _ hLI
      · exact absurd rfl h3
  · exact absurd rfl h1
set_option maxRecDepth 100000 in
set_option maxHeartbeats 2000000 in
theorem LC35_ok (hL : LI G c F X B) (ha : gN G ≤ c) (hs : SCR G b L xs) (hi : i + 4 < L) (hl : L ≤ 2560) (hB : B + 2500 ≤ 2 ^ 21) (l6 l7 l8 : Option Value) (next : ∀ F' X' l6 l7 l8, LI G c F' X' (B + 2500) → AF G mL_law 13 bc bs R F' 2880 [some (.ref b), some (.ref c), some (.ref (c + 131)), some (.ref (c + 140)), some (.ref (c + 141)), some (.int (nI i)), l6, l7, l8] []) : AF G mL_law 13 (bc + 50) (bs + 6964) R F 1821 [some (.ref b), some (.ref c), some (.ref (c + 131)), some (.ref (c + 140)), some (.ref (c + 141)), some (.int (nI i)), l6, l7, l8] [] := by
  obtain ⟨bv, th, f, g, hC, hM, ⟨ho, hod⟩, hbv, hz, hX⟩ := hL
  obtain ⟨x, ex⟩ : ∃ z, z = xs (i + 1) := ⟨_, rfl⟩
  obtain ⟨y, ey⟩ : ∃ z, z = xs (i + 2) := ⟨_, rfl⟩
  have hpr : (if pPly X.sg x y = 4 then 3 else pPly X.sg x y) ≤ 3 := by have := pPly_v (σ := X.sg) (x := x) (y := y); split <;> omega
  obtain ⟨hn, hf, ⟨c0, -⟩, -⟩ := id hC
  refine AF.less (d' := 13) (bc' := bc + 1) (bs' := bs + 6) ?_ (Nat.le_refl _) (by omega) (by omega)
  refine AF.aload_n dL_law_1821 rfl ?_
  refine AF.aload_n dL_law_1822 rfl ?_
  refine AF.iload dL_law_1823 rfl ?_
  refine AF.iconst (nI 1) dL_law_1825 (by decide) ?_
  refine AF.iadd dL_law_1826 ?_
  rw [nI_add]
  refine AF.ialoadT (v := .int x) (i + 1) dL_law_1827 hs rfl (by omega) (by omega) (congrArg Value.int ex.symm) ?_
  refine AF.aload_n dL_law_1828 rfl ?_
  refine AF.iload dL_law_1829 rfl ?_
  refine AF.iconst (nI 2) dL_law_1831 (by decide) ?_
  refine AF.iadd dL_law_1832 ?_
  rw [nI_add]
  refine AF.ialoadT (v := .int y) (i + 2) dL_law_1833 hs rfl (by omega) (by omega) (congrArg Value.int ey.symm) ?_
  refine AF.aload_n dL_law_1834 rfl ?_
  refine AF.callSX (bc := bc) (bs := bs) (mc' := 1) (ms' := 6) dL_law_1835 kx_L_284 (L_play_ok (B := B) hC x y ha hX.1 ho (by omega) (by omega) (by omega) (by omega)) rfl rfl (Nat.le_of_ble_eq_true rfl) (by decide) rfl (fun E F9 q => nomatch q.1) (fun v F2 q => ?_)
  obtain ⟨q, bv2, hC2, ⟨x1, x2, x3⟩, f2, hr2, hz2⟩ := q
  cases q
  have hbv2 : bv2 = c + 42 ∨ c + 142 ≤ bv2 := by omega
  have hM2 := hM.kept (F' := F2) (fun q a b => x3 q (by omega) (by omega) (by omega) (by omega))
  have ho2 := hr2
  have hod2 := (x3 (c + 141) (by omega) (by omega) (by omega) (by omega)).trans hod
  obtain ⟨g2, f9, A2, ⟨m0, -⟩, -⟩ := id hM2
  refine AF.istore dL_law_1838 (by decide) ?_
  refine AF.aload_n dL_law_1840 rfl ?_
  refine AF.aload_n dL_law_1841 rfl ?_
  refine AF.iload dL_law_1842 rfl ?_
  refine AF.iconst (nI 1) dL_law_1844 (by decide) ?_
  refine AF.iadd dL_law_1845 ?_
  rw [nI_add]
  refine AF.ialoadT (v := .int x) (i + 1) dL_law_1846 hs rfl (by omega) (by omega) (congrArg Value.int ex.symm) ?_
  refine AF.aload_n dL_law_1847 rfl ?_
  refine AF.iload dL_law_1848 rfl ?_
  refine AF.iconst (nI 2) dL_law_1850 (by decide) ?_
  refine AF.iadd dL_law_1851 ?_
  rw [nI_add]
  refine AF.ialoadT (v := .int y) (i + 2) dL_law_1852 hs rfl (by omega) (by omega) (congrArg Value.int ey.symm) ?_
  refine AF.vw dL_law_1853 kv_L_286 (X9_play_ok hM2 (by omega) x y) (by assumption) rfl rfl rfl (Nat.le_of_ble_eq_true rfl) (by decide) rfl (fun E F9 q => nomatch q.1) (fun v F q => ?_)
  obtain ⟨q, hM3, q3⟩ := q
  cases q
  have hC3 := hC2.kept (fun q a b => q3.2 q (by omega)) (q3.2 bv2 (by omega)) (Nat.le_of_eq q3.1.symm)
  have ho3 := (q3.2 (c + 140) (by omega)).trans ho2
  have hod3 := (q3.2 (c + 141) (by omega)).trans hod2
  clear m0
  obtain ⟨g3, f9, A3, ⟨m0, -⟩, -⟩ := id hM3
  have hLI : LI G c F (chX X (aPly X.sg x y) (if pPly X.sg x y = 4 then 3 else pPly X.sg x y)) (B + 2500) := ⟨bv2, _, f2, g, hC3, hM3, ⟨ho3, hod3⟩, hbv2, by have := q3.1; omega, XI.ch hX (fun q => ((hX.1.ply (by by_cases w : pPly X.sg x y = 4; rw [if_pos w] at q; omega; rw [if_neg w] at q; exact q)).1).mono (by omega) (by omega)) (by omega) hB⟩
  refine AF.istore dL_law_1856 (by decide) ?_
  refine AF.aload_n dL_law_1858 rfl ?_
  refine AF.v1 dL_law_1859 kv_L_163 ((X9_thrown_ok hM3)) (by assumption) rfl rfl rfl (Nat.le_of_ble_eq_true rfl) (by decide) rfl ?_
  refine AF.iload dL_law_1862 rfl ?_
  refine AF.icmp_eq 1869 dL_law_1864 (by decide) (fun h1 => ?_) (fun h1 => ?_)
  · refine AF.iload dL_law_1869 rfl ?_
    refine AF.if_ne 1886 dL_law_1871 (by decide) (fun h2 => ?_) (fun h2 => ?_)
    · refine AF.goto 2880 dL_law_1886 (by decide) ?_
      exact next F _ _ _ _ hLI
    · have h2 : nI (if pPly X.sg x y = 4 then 3 else pPly X.sg x y) = nI 0 := h2
      rw [nI_eq (by omega) (by omega)] at h2
      refine AF.aload_n dL_law_1874 rfl ?_
      refine AF.iconst (nI 0) dL_law_1875 (by decide) ?_
      refine AF.laload 0 dL_law_1876 ho3 rfl (by omega) (by decide) ?_
      rw [hz2 h2]
      refine AF.iload dL_law_1877 rfl ?_
      refine AF.i2l dL_law_1879 ?_
      rw [if_pos h2]
      refine AF.lcmp dL_law_1880 ?_
      rw [lcmp_self]
      refine AF.if_eq 1886 dL_law_1881 (by decide) (fun h3 => ?_) (fun h3 => ?_)
      · refine AF.goto 2880 dL_law_1886 (by decide) ?_
        exact next F _ _ _ _ hLI
      · exact absurd rfl h3
  · exact absurd rfl h1
set_option maxRecDepth 100000 in
set_option maxHeartbeats 2000000 in
theorem LC36_ok (hL : LI G c F X B) (ha : gN G ≤ c) (hs : SCR G b L xs) (hi : i + 4 < L) (hl : L ≤ 2560) (hB : B + 2500 ≤ 2 ^ 21) (l6 l7 l8 : Option Value) (next : ∀ F' X' l6 l7 l8, LI G c F' X' (B + 2500) → AF G mL_law 13 bc bs R F' 2880 [some (.ref b), some (.ref c), some (.ref (c + 131)), some (.ref (c + 140)), some (.ref (c + 141)), some (.int (nI i)), l6, l7, l8] []) : AF G mL_law 13 (bc + 50) (bs + 6964) R F 1889 [some (.ref b), some (.ref c), some (.ref (c + 131)), some (.ref (c + 140)), some (.ref (c + 141)), some (.int (nI i)), l6, l7, l8] [] := by
  obtain ⟨bv, th, f, g, hC, hM, ⟨ho, hod⟩, hbv, hz, hX⟩ := hL
  obtain ⟨x, ex⟩ : ∃ z, z = xs (i + 1) := ⟨_, rfl⟩
  have hpr : (if hasB X.sg.E.length x = true then 0 else 1) ≤ 3 := by split <;> omega
  obtain ⟨hn, hf, ⟨c0, -⟩, -⟩ := id hC
  refine AF.less (d' := 13) (bc' := bc + 1) (bs' := bs + 6) ?_ (Nat.le_refl _) (by omega) (by omega)
  refine AF.aload_n dL_law_1889 rfl ?_
  refine AF.aload_n dL_law_1890 rfl ?_
  refine AF.iload dL_law_1891 rfl ?_
  refine AF.iconst (nI 1) dL_law_1893 (by decide) ?_
  refine AF.iadd dL_law_1894 ?_
  rw [nI_add]
  refine AF.ialoadT (v := .int x) (i + 1) dL_law_1895 hs rfl (by omega) (by omega) (congrArg Value.int ex.symm) ?_
  refine AF.aload_n dL_law_1896 rfl ?_
  refine AF.callSX (bc := bc) (bs := bs) (mc' := 1) (ms' := 6) dL_law_1897 kx_L_287 (L_cancel_ok (B := B) hC x ha hX.1 ho (by omega) (by omega) (by omega) (by omega)) rfl rfl (Nat.le_of_ble_eq_true rfl) (by decide) rfl (fun E F9 q => nomatch q.1) (fun v F2 q => ?_)
  obtain ⟨q, bv2, hC2, ⟨x1, x2, x3⟩, f2, hr2, hz2⟩ := q
  cases q
  have hbv2 : bv2 = c + 42 ∨ c + 142 ≤ bv2 := by omega
  have hM2 := hM.kept (F' := F2) (fun q a b => x3 q (by omega) (by omega) (by omega) (by omega))
  have ho2 := hr2
  have hod2 := (x3 (c + 141) (by omega) (by omega) (by omega) (by omega)).trans hod
  obtain ⟨g2, f9, A2, ⟨m0, -⟩, -⟩ := id hM2
  refine AF.istore dL_law_1900 (by decide) ?_
  refine AF.aload_n dL_law_1902 rfl ?_
  refine AF.aload_n dL_law_1903 rfl ?_
  refine AF.iload dL_law_1904 rfl ?_
  refine AF.iconst (nI 1) dL_law_1906 (by decide) ?_
  refine AF.iadd dL_law_1907 ?_
  rw [nI_add]
  refine AF.ialoadT (v := .int x) (i + 1) dL_law_1908 hs rfl (by omega) (by omega) (congrArg Value.int ex.symm) ?_
  refine AF.vw dL_law_1909 kv_L_289 (X9_cancel_ok hM2 (by omega) x) (by assumption) rfl rfl rfl (Nat.le_of_ble_eq_true rfl) (by decide) rfl (fun E F9 q => nomatch q.1) (fun v F q => ?_)
  obtain ⟨q, hM3, q3⟩ := q
  cases q
  have hC3 := hC2.kept (fun q a b => q3.2 q (by omega)) (q3.2 bv2 (by omega)) (Nat.le_of_eq q3.1.symm)
  have ho3 := (q3.2 (c + 140) (by omega)).trans ho2
  have hod3 := (q3.2 (c + 141) (by omega)).trans hod2
  clear m0
  obtain ⟨g3, f9, A3, ⟨m0, -⟩, -⟩ := id hM3
  have hLI : LI G c F (chX X (aCan X.sg x) (if hasB X.sg.E.length x = true then 0 else 1)) (B + 2500) := ⟨bv2, _, f2, g, hC3, hM3, ⟨ho3, hod3⟩, hbv2, by have := q3.1; omega, XI.ch hX (fun q => ((hX.1.can (Decidable.byContradiction (fun z => by rw [if_neg z] at q; cases q))).1).mono (by omega) (by omega)) (by omega) hB⟩
  refine AF.istore dL_law_1912 (by decide) ?_
  refine AF.aload_n dL_law_1914 rfl ?_
  refine AF.v1 dL_law_1915 kv_L_163 ((X9_thrown_ok hM3)) (by assumption) rfl rfl rfl (Nat.le_of_ble_eq_true rfl) (by decide) rfl ?_
  refine AF.iload dL_law_1918 rfl ?_
  refine AF.icmp_eq 1925 dL_law_1920 (by decide) (fun h1 => ?_) (fun h1 => ?_)
  · refine AF.iload dL_law_1925 rfl ?_
    refine AF.if_ne 1942 dL_law_1927 (by decide) (fun h2 => ?_) (fun h2 => ?_)
    · refine AF.goto 2880 dL_law_1942 (by decide) ?_
      exact next F _ _ _ _ hLI
    · have h2 : nI (if hasB X.sg.E.length x = true then 0 else 1) = nI 0 := h2
      rw [nI_eq (by omega) (by omega)] at h2
      refine AF.aload_n dL_law_1930 rfl ?_
      refine AF.iconst (nI 0) dL_law_1931 (by decide) ?_
      refine AF.laload 0 dL_law_1932 ho3 rfl (by omega) (by decide) ?_
      rw [hz2 h2]
      refine AF.iload dL_law_1933 rfl ?_
      refine AF.i2l dL_law_1935 ?_
      rw [if_pos h2]
      refine AF.lcmp dL_law_1936 ?_
      rw [lcmp_self]
      refine AF.if_eq 1942 dL_law_1937 (by decide) (fun h3 => ?_) (fun h3 => ?_)
      · refine AF.goto 2880 dL_law_1942 (by decide) ?_
        exact next F _ _ _ _ hLI
      · exact absurd rfl h3
  · exact absurd rfl h1
set_option maxRecDepth 100000 in
set_option maxHeartbeats 2000000 in
theorem LC37_ok (hL : LI G c F X B) (ha : gN G ≤ c) (hs : SCR G b L xs) (hi : i + 4 < L) (hl : L ≤ 2560) (hB : B + 2500 ≤ 2 ^ 21) (l6 l7 l8 : Option Value) (next : ∀ F' X' l6 l7 l8, LI G c F' X' (B + 2500) → AF G mL_law 13 bc bs R F' 2880 [some (.ref b), some (.ref c), some (.ref (c + 131)), some (.ref (c + 140)), some (.ref (c + 141)), some (.int (nI i)), l6, l7, l8] []) : AF G mL_law 13 (bc + 50) (bs + 6964) R F 1945 [some (.ref b), some (.ref c), some (.ref (c + 131)), some (.ref (c + 140)), some (.ref (c + 141)), some (.int (nI i)), l6, l7, l8] [] := by
  obtain ⟨bv, th, f, g, hC, hM, ⟨ho, hod⟩, hbv, hz, hX⟩ := hL
  obtain ⟨x, ex⟩ : ∃ z, z = xs (i + 1) := ⟨_, rfl⟩
  have hpr : (pPas x / 2) ≤ 3 := by have := pPas_v (x := x); omega
  obtain ⟨hn, hf, ⟨c0, -⟩, -⟩ := id hC
  refine AF.less (d' := 13) (bc' := bc + 1) (bs' := bs + 6) ?_ (Nat.le_refl _) (by omega) (by omega)
  refine AF.aload_n dL_law_1945 rfl ?_
  refine AF.aload_n dL_law_1946 rfl ?_
  refine AF.iload dL_law_1947 rfl ?_
  refine AF.iconst (nI 1) dL_law_1949 (by decide) ?_
  refine AF.iadd dL_law_1950 ?_
  rw [nI_add]
  refine AF.ialoadT (v := .int x) (i + 1) dL_law_1951 hs rfl (by omega) (by omega) (congrArg Value.int ex.symm) ?_
  refine AF.aload_n dL_law_1952 rfl ?_
  refine AF.callSX (bc := bc) (bs := bs) (mc' := 1) (ms' := 6) dL_law_1953 kx_L_290 (L_pass_ok (B := B) hC x ha hX.1 (by omega) ho (by omega) (by omega) (by omega) (by omega)) rfl rfl (Nat.le_of_ble_eq_true rfl) (by decide) rfl (fun E F9 q => nomatch q.1) (fun v F2 q => ?_)
  obtain ⟨q, bv2, hC2, ⟨x1, x2, x3⟩, f2, hr2, hz2⟩ := q
  cases q
  have hbv2 : bv2 = c + 42 ∨ c + 142 ≤ bv2 := by omega
  have hM2 := hM.kept (F' := F2) (fun q a b => x3 q (by omega) (by omega) (by omega) (by omega))
  have ho2 := hr2
  have hod2 := (x3 (c + 141) (by omega) (by omega) (by omega) (by omega)).trans hod
  obtain ⟨g2, f9, A2, ⟨m0, -⟩, -⟩ := id hM2
  refine AF.istore dL_law_1956 (by decide) ?_
  refine AF.aload_n dL_law_1958 rfl ?_
  refine AF.aload_n dL_law_1959 rfl ?_
  refine AF.iload dL_law_1960 rfl ?_
  refine AF.iconst (nI 1) dL_law_1962 (by decide) ?_
  refine AF.iadd dL_law_1963 ?_
  rw [nI_add]
  refine AF.ialoadT (v := .int x) (i + 1) dL_law_1964 hs rfl (by omega) (by omega) (congrArg Value.int ex.symm) ?_
  refine AF.vw dL_law_1965 kv_L_292 (X9_pass_ok hM2 (by omega) hX.1 (by omega) x) (by assumption) rfl rfl rfl (Nat.le_of_ble_eq_true rfl) (by decide) rfl (fun E F9 q => nomatch q.1) (fun v F q => ?_)
  obtain ⟨q, hM3, q3⟩ := q
  cases q
  have hC3 := hC2.kept (fun q a b => q3.2 q (by omega)) (q3.2 bv2 (by omega)) (Nat.le_of_eq q3.1.symm)
  have ho3 := (q3.2 (c + 140) (by omega)).trans ho2
  have hod3 := (q3.2 (c + 141) (by omega)).trans hod2
  clear m0
  obtain ⟨g3, f9, A3, ⟨m0, -⟩, -⟩ := id hM3
  have hLI : LI G c F (chX X (nxN X.sg (cl x)) (pPas x / 2)) (B + 2500) := ⟨bv2, _, f2, g, hC3, hM3, ⟨ho3, hod3⟩, hbv2, by have := q3.1; omega, XI.ch hX (fun q => by have h0 := pPas_0 (x := x) (by have := pPas_v (x := x); omega); exact (hX.1.nxN (cl x) (by omega)).mono (by omega) (by omega)) (by omega) hB⟩
  refine AF.istore dL_law_1968 (by decide) ?_
  refine AF.aload_n dL_law_1970 rfl ?_
  refine AF.v1 dL_law_1971 kv_L_163 ((X9_thrown_ok hM3)) (by assumption) rfl rfl rfl (Nat.le_of_ble_eq_true rfl) (by decide) rfl ?_
  refine AF.iload dL_law_1974 rfl ?_
  refine AF.icmp_eq 1981 dL_law_1976 (by decide) (fun h1 => ?_) (fun h1 => ?_)
  · refine AF.iload dL_law_1981 rfl ?_
    refine AF.if_ne 1998 dL_law_1983 (by decide) (fun h2 => ?_) (fun h2 => ?_)
    · refine AF.goto 2880 dL_law_1998 (by decide) ?_
      exact next F _ _ _ _ hLI
    · have h2 : nI (pPas x / 2) = nI 0 := h2
      rw [nI_eq (by omega) (by omega)] at h2
      refine AF.aload_n dL_law_1986 rfl ?_
      refine AF.iconst (nI 0) dL_law_1987 (by decide) ?_
      refine AF.laload 0 dL_law_1988 ho3 rfl (by omega) (by decide) ?_
      rw [hz2 h2]
      refine AF.iload dL_law_1989 rfl ?_
      refine AF.i2l dL_law_1991 ?_
      rw [if_pos h2]
      refine AF.lcmp dL_law_1992 ?_
      rw [lcmp_self]
      refine AF.if_eq 1998 dL_law_1993 (by decide) (fun h3 => ?_) (fun h3 => ?_)
      · refine AF.goto 2880 dL_law_1998 (by decide) ?_
        exact next F _ _ _ _ hLI
      · exact absurd rfl h3
  · exact absurd rfl h1
set_option maxRecDepth 100000 in
set_option maxHeartbeats 2000000 in
theorem LC38_ok (hL : LI G c F X B) (ha : gN G ≤ c) (hs : SCR G b L xs) (hi : i + 4 < L) (hl : L ≤ 2560) (hB : B + 2500 ≤ 2 ^ 21) (l6 l7 l8 : Option Value) (next : ∀ F' X' l6 l7 l8, LI G c F' X' (B + 2500) → AF G mL_law 13 bc bs R F' 2880 [some (.ref b), some (.ref c), some (.ref (c + 131)), some (.ref (c + 140)), some (.ref (c + 141)), some (.int (nI i)), l6, l7, l8] []) : AF G mL_law 13 (bc + 50) (bs + 6964) R F 2001 [some (.ref b), some (.ref c), some (.ref (c + 131)), some (.ref (c + 140)), some (.ref (c + 141)), some (.int (nI i)), l6, l7, l8] [] := by
  obtain ⟨bv, th, f, g, hC, hM, ⟨ho, hod⟩, hbv, hz, hX⟩ := hL
  obtain ⟨hn, hf, ⟨c0, -⟩, -⟩ := id hC
  refine AF.less (d' := 13) (bc' := bc) (bs' := bs) ?_ (Nat.le_refl _) (by omega) (by omega)
  refine AF.aload_n dL_law_2001 rfl ?_
  refine AF.vw dL_law_2002 kv_L_293 (X8_beat_ok hC) c0 rfl rfl rfl (Nat.le_of_ble_eq_true rfl) (by decide) rfl (fun E F9 q => absurd rfl (rx_x q.1).1) (fun v F2 q => ?_)
  obtain ⟨q, bv2, hC2, x1, x2, x3⟩ := q
  obtain ⟨-, q⟩ := rx_n q
  cases q
  have hbv2 : bv2 = c + 42 ∨ c + 142 ≤ bv2 := by omega
  have hM2 := hM.kept (F' := F2) (fun q a b => x3 q (by omega) (by omega) (by omega))
  have ho2 := (x3 (c + 140) (by omega) (by omega) (by omega)).trans ho
  have hod2 := (x3 (c + 141) (by omega) (by omega) (by omega)).trans hod
  obtain ⟨g2, f9, A2, ⟨m0, -⟩, -⟩ := id hM2
  refine AF.aload_n dL_law_2005 rfl ?_
  refine AF.vw dL_law_2006 kv_L_296 (X9_beat_ok hM2 (by omega)) (by assumption) rfl rfl rfl (Nat.le_of_ble_eq_true rfl) (by decide) rfl (fun E F9 q => nomatch q.1) (fun v F q => ?_)
  obtain ⟨q, hM3, q3⟩ := q
  cases q
  have hC3 := hC2.kept (fun q a b => q3.2 q (by omega)) (q3.2 bv2 (by omega)) (Nat.le_of_eq q3.1.symm)
  have ho3 := (q3.2 (c + 140) (by omega)).trans ho2
  have hod3 := (q3.2 (c + 141) (by omega)).trans hod2
  have hLI : LI G c F _ (B + 2500) := ⟨bv2, _, f, g, hC3, hM3, ⟨ho3, hod3⟩, hbv2, by have := q3.1; omega, hX.mono (by omega) hB⟩
  refine AF.icmp_eq 2880 dL_law_2009 (by decide) (fun h1 => ?_) (fun h1 => ?_)
  · exact next F _ _ _ _ hLI
  · exact absurd rfl h1
set_option maxRecDepth 100000 in
set_option maxHeartbeats 2000000 in
theorem LC39_ok (hL : LI G c F X B) (ha : gN G ≤ c) (hs : SCR G b L xs) (hi : i + 4 < L) (hl : L ≤ 2560) (hB : B + 2500 ≤ 2 ^ 21) (l6 l7 l8 : Option Value) (next : ∀ F' X' l6 l7 l8, LI G c F' X' (B + 2500) → AF G mL_law 13 bc bs R F' 2880 [some (.ref b), some (.ref c), some (.ref (c + 131)), some (.ref (c + 140)), some (.ref (c + 141)), some (.int (nI i)), l6, l7, l8] []) : AF G mL_law 13 (bc + 50) (bs + 6964) R F 2014 [some (.ref b), some (.ref c), some (.ref (c + 131)), some (.ref (c + 140)), some (.ref (c + 141)), some (.int (nI i)), l6, l7, l8] [] := by
  obtain ⟨bv, th, f, g, hC, hM, ⟨ho, hod⟩, hbv, hz, hX⟩ := hL
  obtain ⟨hn, hf, ⟨c0, -⟩, -⟩ := id hC
  refine AF.less (d' := 13) (bc' := bc) (bs' := bs) ?_ (Nat.le_refl _) (by omega) (by omega)
  refine AF.aload_n dL_law_2014 rfl ?_
  refine AF.vw dL_law_2015 kv_L_297 (X8_queueLength_ok hC) c0 rfl rfl rfl (Nat.le_of_ble_eq_true rfl) (by decide) rfl (fun E F9 q => absurd rfl (rx_x q.1).1) (fun v F2 q => ?_)
  obtain ⟨q, bv2, hC2, x1, x2, x3⟩ := q
  obtain ⟨-, q⟩ := rx_n q
  cases q
  have hbv2 : bv2 = c + 42 ∨ c + 142 ≤ bv2 := by omega
  have hM2 := hM.kept (F' := F2) (fun q a b => x3 q (by omega) (by omega) (by omega))
  have ho2 := (x3 (c + 140) (by omega) (by omega) (by omega)).trans ho
  have hod2 := (x3 (c + 141) (by omega) (by omega) (by omega)).trans hod
  obtain ⟨g2, f9, A2, ⟨m0, -⟩, -⟩ := id hM2
  refine AF.aload_n dL_law_2018 rfl ?_
  refine AF.vw dL_law_2019 kv_L_300 (X9_queueLength_ok hM2 (by omega)) (by assumption) rfl rfl rfl (Nat.le_of_ble_eq_true rfl) (by decide) rfl (fun E F9 q => nomatch q.1) (fun v F q => ?_)
  obtain ⟨q, hM3, q3⟩ := q
  cases q
  have hC3 := hC2.kept (fun q a b => q3.2 q (by omega)) (q3.2 bv2 (by omega)) (Nat.le_of_eq q3.1.symm)
  have ho3 := (q3.2 (c + 140) (by omega)).trans ho2
  have hod3 := (q3.2 (c + 141) (by omega)).trans hod2
  have hLI : LI G c F _ (B + 2500) := ⟨bv2, _, f, g, hC3, hM3, ⟨ho3, hod3⟩, hbv2, by have := q3.1; omega, hX.mono (by omega) hB⟩
  refine AF.icmp_eq 2880 dL_law_2022 (by decide) (fun h1 => ?_) (fun h1 => ?_)
  · exact next F _ _ _ _ hLI
  · exact absurd rfl h1
set_option maxRecDepth 100000 in
set_option maxHeartbeats 2000000 in
theorem LC40_ok (hL : LI G c F X B) (ha : gN G ≤ c) (hs : SCR G b L xs) (hi : i + 4 < L) (hl : L ≤ 2560) (hB : B + 2500 ≤ 2 ^ 21) (l6 l7 l8 : Option Value) (next : ∀ F' X' l6 l7 l8, LI G c F' X' (B + 2500) → AF G mL_law 13 bc bs R F' 2880 [some (.ref b), some (.ref c), some (.ref (c + 131)), some (.ref (c + 140)), some (.ref (c + 141)), some (.int (nI i)), l6, l7, l8] []) : AF G mL_law 13 (bc + 50) (bs + 6964) R F 2027 [some (.ref b), some (.ref c), some (.ref (c + 131)), some (.ref (c + 140)), some (.ref (c + 141)), some (.int (nI i)), l6, l7, l8] [] := by
  obtain ⟨bv, th, f, g, hC, hM, ⟨ho, hod⟩, hbv, hz, hX⟩ := hL
  obtain ⟨x, ex⟩ : ∃ z, z = xs (i + 1) := ⟨_, rfl⟩
  have hpr : (if hasB X.sg.E.length x = true then 0 else 1) ≤ 3 := by split <;> omega
  obtain ⟨hn, hf, ⟨c0, -⟩, -⟩ := id hC
  refine AF.less (d' := 13) (bc' := bc + 1) (bs' := bs + 6) ?_ (Nat.le_refl _) (by omega) (by omega)
  refine AF.aload_n dL_law_2027 rfl ?_
  refine AF.aload_n dL_law_2028 rfl ?_
  refine AF.iload dL_law_2029 rfl ?_
  refine AF.iconst (nI 1) dL_law_2031 (by decide) ?_
  refine AF.iadd dL_law_2032 ?_
  rw [nI_add]
  refine AF.ialoadT (v := .int x) (i + 1) dL_law_2033 hs rfl (by omega) (by omega) (congrArg Value.int ex.symm) ?_
  refine AF.aload_n dL_law_2034 rfl ?_
  refine AF.callSX (bc := bc) (bs := bs) (mc' := 1) (ms' := 6) dL_law_2035 kx_L_301 (L_entryFigure_ok (B := B) hC x ho (by omega) (by omega) (by omega) (by omega)) rfl rfl (Nat.le_of_ble_eq_true rfl) (by decide) rfl (fun E F9 q => nomatch q.1) (fun v F2 q => ?_)
  obtain ⟨q, bv2, hC2, ⟨x1, x2, x3⟩, f2, hr2, hz2⟩ := q
  cases q
  have hbv2 : bv2 = c + 42 ∨ c + 142 ≤ bv2 := by omega
  have hM2 := hM.kept (F' := F2) (fun q a b => x3 q (by omega) (by omega) (by omega) (by omega))
  have ho2 := hr2
  have hod2 := (x3 (c + 141) (by omega) (by omega) (by omega) (by omega)).trans hod
  obtain ⟨g2, f9, A2, ⟨m0, -⟩, -⟩ := id hM2
  refine AF.istore dL_law_2038 (by decide) ?_
  refine AF.aload_n dL_law_2040 rfl ?_
  refine AF.aload_n dL_law_2041 rfl ?_
  refine AF.iload dL_law_2042 rfl ?_
  refine AF.iconst (nI 1) dL_law_2044 (by decide) ?_
  refine AF.iadd dL_law_2045 ?_
  rw [nI_add]
  refine AF.ialoadT (v := .int x) (i + 1) dL_law_2046 hs rfl (by omega) (by omega) (congrArg Value.int ex.symm) ?_
  refine AF.vw dL_law_2047 kv_L_303 (X9_entryFigure_ok hM2 (by omega) x) (by assumption) rfl rfl rfl (Nat.le_of_ble_eq_true rfl) (by decide) rfl (fun E F9 q => nomatch q.1) (fun v F q => ?_)
  obtain ⟨q, hM3, q3⟩ := q
  cases q
  have hC3 := hC2.kept (fun q a b => q3.2 q (by omega)) (q3.2 bv2 (by omega)) (Nat.le_of_eq q3.1.symm)
  have ho3 := (q3.2 (c + 140) (by omega)).trans ho2
  have hod3 := (q3.2 (c + 141) (by omega)).trans hod2
  clear m0
  obtain ⟨g3, f9, A3, ⟨m0, -⟩, -⟩ := id hM3
  have hLI : LI G c F X (B + 2500) := ⟨bv2, _, f2, g, hC3, hM3, ⟨ho3, hod3⟩, hbv2, by have := q3.1; omega, hX.mono (by omega) hB⟩
  refine AF.istore dL_law_2050 (by decide) ?_
  refine AF.aload_n dL_law_2052 rfl ?_
  refine AF.v1 dL_law_2053 kv_L_163 ((X9_thrown_ok hM3)) (by assumption) rfl rfl rfl (Nat.le_of_ble_eq_true rfl) (by decide) rfl ?_
  refine AF.iload dL_law_2056 rfl ?_
  refine AF.icmp_eq 2063 dL_law_2058 (by decide) (fun h1 => ?_) (fun h1 => ?_)
  · refine AF.iload dL_law_2063 rfl ?_
    refine AF.if_ne 2080 dL_law_2065 (by decide) (fun h2 => ?_) (fun h2 => ?_)
    · refine AF.goto 2880 dL_law_2080 (by decide) ?_
      exact next F _ _ _ _ hLI
    · have h2 : nI (if hasB X.sg.E.length x = true then 0 else 1) = nI 0 := h2
      rw [nI_eq (by omega) (by omega)] at h2
      refine AF.aload_n dL_law_2068 rfl ?_
      refine AF.iconst (nI 0) dL_law_2069 (by decide) ?_
      refine AF.laload 0 dL_law_2070 ho3 rfl (by omega) (by decide) ?_
      rw [hz2 h2]
      refine AF.iload dL_law_2071 rfl ?_
      refine AF.i2l dL_law_2073 ?_
      rw [if_pos h2]
      refine AF.lcmp dL_law_2074 ?_
      rw [lcmp_self]
      refine AF.if_eq 2080 dL_law_2075 (by decide) (fun h3 => ?_) (fun h3 => ?_)
      · refine AF.goto 2880 dL_law_2080 (by decide) ?_
        exact next F _ _ _ _ hLI
      · exact absurd rfl h3
  · exact absurd rfl h1
set_option maxRecDepth 100000 in
set_option maxHeartbeats 2000000 in
theorem LC41_ok (hL : LI G c F X B) (ha : gN G ≤ c) (hs : SCR G b L xs) (hi : i + 4 < L) (hl : L ≤ 2560) (hB : B + 2500 ≤ 2 ^ 21) (l6 l7 l8 : Option Value) (next : ∀ F' X' l6 l7 l8, LI G c F' X' (B + 2500) → AF G mL_law 13 bc bs R F' 2880 [some (.ref b), some (.ref c), some (.ref (c + 131)), some (.ref (c + 140)), some (.ref (c + 141)), some (.int (nI i)), l6, l7, l8] []) : AF G mL_law 13 (bc + 50) (bs + 6964) R F 2083 [some (.ref b), some (.ref c), some (.ref (c + 131)), some (.ref (c + 140)), some (.ref (c + 141)), some (.int (nI i)), l6, l7, l8] [] := by
  obtain ⟨bv, th, f, g, hC, hM, ⟨ho, hod⟩, hbv, hz, hX⟩ := hL
  obtain ⟨x, ex⟩ : ∃ z, z = xs (i + 1) := ⟨_, rfl⟩
  have hpr : (if hasB X.sg.E.length x = true then 0 else 1) ≤ 3 := by split <;> omega
  obtain ⟨hn, hf, ⟨c0, -⟩, -⟩ := id hC
  refine AF.less (d' := 13) (bc' := bc + 1) (bs' := bs + 6) ?_ (Nat.le_refl _) (by omega) (by omega)
  refine AF.aload_n dL_law_2083 rfl ?_
  refine AF.aload_n dL_law_2084 rfl ?_
  refine AF.iload dL_law_2085 rfl ?_
  refine AF.iconst (nI 1) dL_law_2087 (by decide) ?_
  refine AF.iadd dL_law_2088 ?_
  rw [nI_add]
  refine AF.ialoadT (v := .int x) (i + 1) dL_law_2089 hs rfl (by omega) (by omega) (congrArg Value.int ex.symm) ?_
  refine AF.aload_n dL_law_2090 rfl ?_
  refine AF.callSX (bc := bc) (bs := bs) (mc' := 1) (ms' := 6) dL_law_2091 kx_L_304 (L_entryStart_ok (B := B) hC x ho (by omega) (by omega) (by omega) (by omega)) rfl rfl (Nat.le_of_ble_eq_true rfl) (by decide) rfl (fun E F9 q => nomatch q.1) (fun v F2 q => ?_)
  obtain ⟨q, bv2, hC2, ⟨x1, x2, x3⟩, f2, hr2, hz2⟩ := q
  cases q
  have hbv2 : bv2 = c + 42 ∨ c + 142 ≤ bv2 := by omega
  have hM2 := hM.kept (F' := F2) (fun q a b => x3 q (by omega) (by omega) (by omega) (by omega))
  have ho2 := hr2
  have hod2 := (x3 (c + 141) (by omega) (by omega) (by omega) (by omega)).trans hod
  obtain ⟨g2, f9, A2, ⟨m0, -⟩, -⟩ := id hM2
  refine AF.istore dL_law_2094 (by decide) ?_
  refine AF.aload_n dL_law_2096 rfl ?_
  refine AF.aload_n dL_law_2097 rfl ?_
  refine AF.iload dL_law_2098 rfl ?_
  refine AF.iconst (nI 1) dL_law_2100 (by decide) ?_
  refine AF.iadd dL_law_2101 ?_
  rw [nI_add]
  refine AF.ialoadT (v := .int x) (i + 1) dL_law_2102 hs rfl (by omega) (by omega) (congrArg Value.int ex.symm) ?_
  refine AF.vw dL_law_2103 kv_L_306 (X9_entryStart_ok hM2 (by omega) x) (by assumption) rfl rfl rfl (Nat.le_of_ble_eq_true rfl) (by decide) rfl (fun E F9 q => nomatch q.1) (fun v F q => ?_)
  obtain ⟨q, hM3, q3⟩ := q
  cases q
  have hC3 := hC2.kept (fun q a b => q3.2 q (by omega)) (q3.2 bv2 (by omega)) (Nat.le_of_eq q3.1.symm)
  have ho3 := (q3.2 (c + 140) (by omega)).trans ho2
  have hod3 := (q3.2 (c + 141) (by omega)).trans hod2
  clear m0
  obtain ⟨g3, f9, A3, ⟨m0, -⟩, -⟩ := id hM3
  have hLI : LI G c F X (B + 2500) := ⟨bv2, _, f2, g, hC3, hM3, ⟨ho3, hod3⟩, hbv2, by have := q3.1; omega, hX.mono (by omega) hB⟩
  refine AF.istore dL_law_2106 (by decide) ?_
  refine AF.aload_n dL_law_2108 rfl ?_
  refine AF.v1 dL_law_2109 kv_L_163 ((X9_thrown_ok hM3)) (by assumption) rfl rfl rfl (Nat.le_of_ble_eq_true rfl) (by decide) rfl ?_
  refine AF.iload dL_law_2112 rfl ?_
  refine AF.icmp_eq 2119 dL_law_2114 (by decide) (fun h1 => ?_) (fun h1 => ?_)
  · refine AF.iload dL_law_2119 rfl ?_
    refine AF.if_ne 2136 dL_law_2121 (by decide) (fun h2 => ?_) (fun h2 => ?_)
    · refine AF.goto 2880 dL_law_2136 (by decide) ?_
      exact next F _ _ _ _ hLI
    · have h2 : nI (if hasB X.sg.E.length x = true then 0 else 1) = nI 0 := h2
      rw [nI_eq (by omega) (by omega)] at h2
      refine AF.aload_n dL_law_2124 rfl ?_
      refine AF.iconst (nI 0) dL_law_2125 (by decide) ?_
      refine AF.laload 0 dL_law_2126 ho3 rfl (by omega) (by decide) ?_
      rw [hz2 h2]
      refine AF.iload dL_law_2127 rfl ?_
      refine AF.i2l dL_law_2129 ?_
      rw [if_pos h2]
      refine AF.lcmp dL_law_2130 ?_
      rw [lcmp_self]
      refine AF.if_eq 2136 dL_law_2131 (by decide) (fun h3 => ?_) (fun h3 => ?_)
      · refine AF.goto 2880 dL_law_2136 (by decide) ?_
        exact next F _ _ _ _ hLI
      · exact absurd rfl h3
  · exact absurd rfl h1
set_option maxRecDepth 100000 in
set_option maxHeartbeats 2000000 in
theorem LC42_ok (hL : LI G c F X B) (ha : gN G ≤ c) (hs : SCR G b L xs) (hi : i + 4 < L) (hl : L ≤ 2560) (hB : B + 2500 ≤ 2 ^ 21) (l6 l7 l8 : Option Value) (next : ∀ F' X' l6 l7 l8, LI G c F' X' (B + 2500) → AF G mL_law 13 bc bs R F' 2880 [some (.ref b), some (.ref c), some (.ref (c + 131)), some (.ref (c + 140)), some (.ref (c + 141)), some (.int (nI i)), l6, l7, l8] []) : AF G mL_law 13 (bc + 50) (bs + 6964) R F 2139 [some (.ref b), some (.ref c), some (.ref (c + 131)), some (.ref (c + 140)), some (.ref (c + 141)), some (.int (nI i)), l6, l7, l8] [] := by
  obtain ⟨bv, th, f, g, hC, hM, ⟨ho, hod⟩, hbv, hz, hX⟩ := hL
  obtain ⟨hn, hf, ⟨c0, -⟩, -⟩ := id hC
  refine AF.less (d' := 13) (bc' := bc) (bs' := bs) ?_ (Nat.le_refl _) (by omega) (by omega)
  refine AF.aload_n dL_law_2139 rfl ?_
  refine AF.vw dL_law_2140 kv_L_307 (X8_beatsUntilEmpty_ok hC hX.1) c0 rfl rfl rfl (Nat.le_of_ble_eq_true rfl) (by decide) rfl (fun E F9 q => absurd rfl (rx_x q.1).1) (fun v F2 q => ?_)
  obtain ⟨q, bv2, hC2, x1, x2, x3⟩ := q
  obtain ⟨-, q⟩ := rx_n q
  cases q
  have hbv2 : bv2 = c + 42 ∨ c + 142 ≤ bv2 := by omega
  have hM2 := hM.kept (F' := F2) (fun q a b => x3 q (by omega) (by omega) (by omega))
  have ho2 := (x3 (c + 140) (by omega) (by omega) (by omega)).trans ho
  have hod2 := (x3 (c + 141) (by omega) (by omega) (by omega)).trans hod
  obtain ⟨g2, f9, A2, ⟨m0, -⟩, -⟩ := id hM2
  refine AF.aload_n dL_law_2143 rfl ?_
  refine AF.vw dL_law_2144 kv_L_310 (X9_beatsUntilEmpty_ok hM2 (by omega) hX.1) (by assumption) rfl rfl rfl (Nat.le_of_ble_eq_true rfl) (by decide) rfl (fun E F9 q => nomatch q.1) (fun v F q => ?_)
  obtain ⟨q, hM3, q3⟩ := q
  cases q
  have hC3 := hC2.kept (fun q a b => q3.2 q (by omega)) (q3.2 bv2 (by omega)) (Nat.le_of_eq q3.1.symm)
  have ho3 := (q3.2 (c + 140) (by omega)).trans ho2
  have hod3 := (q3.2 (c + 141) (by omega)).trans hod2
  have hLI : LI G c F _ (B + 2500) := ⟨bv2, _, f, g, hC3, hM3, ⟨ho3, hod3⟩, hbv2, by have := q3.1; omega, hX.mono (by omega) hB⟩
  refine AF.icmp_eq 2880 dL_law_2147 (by decide) (fun h1 => ?_) (fun h1 => ?_)
  · exact next F _ _ _ _ hLI
  · exact absurd rfl h1
set_option maxRecDepth 100000 in
set_option maxHeartbeats 2000000 in
theorem LC43_ok (hL : LI G c F X B) (ha : gN G ≤ c) (hs : SCR G b L xs) (hi : i + 4 < L) (hl : L ≤ 2560) (hB : B + 2500 ≤ 2 ^ 21) (l6 l7 l8 : Option Value) (next : ∀ F' X' l6 l7 l8, LI G c F' X' (B + 2500) → AF G mL_law 13 bc bs R F' 2880 [some (.ref b), some (.ref c), some (.ref (c + 131)), some (.ref (c + 140)), some (.ref (c + 141)), some (.int (nI i)), l6, l7, l8] []) : AF G mL_law 13 (bc + 50) (bs + 6964) R F 2152 [some (.ref b), some (.ref c), some (.ref (c + 131)), some (.ref (c + 140)), some (.ref (c + 141)), some (.int (nI i)), l6, l7, l8] [] := by
  obtain ⟨bv, th, f, g, hC, hM, ⟨ho, hod⟩, hbv, hz, hX⟩ := hL
  obtain ⟨x, ex⟩ : ∃ z, z = xs (i + 1) := ⟨_, rfl⟩
  have hpr : (if inB x 0 40 = true then 0 else 1) ≤ 3 := by split <;> omega
  obtain ⟨hn, hf, ⟨c0, -⟩, -⟩ := id hC
  refine AF.less (d' := 13) (bc' := bc + 1) (bs' := bs + 6) ?_ (Nat.le_refl _) (by omega) (by omega)
  refine AF.aload_n dL_law_2152 rfl ?_
  refine AF.aload_n dL_law_2153 rfl ?_
  refine AF.iload dL_law_2154 rfl ?_
  refine AF.iconst (nI 1) dL_law_2156 (by decide) ?_
  refine AF.iadd dL_law_2157 ?_
  rw [nI_add]
  refine AF.ialoadT (v := .int x) (i + 1) dL_law_2158 hs rfl (by omega) (by omega) (congrArg Value.int ex.symm) ?_
  refine AF.aload_n dL_law_2159 rfl ?_
  refine AF.callSX (bc := bc) (bs := bs) (mc' := 1) (ms' := 6) dL_law_2160 kx_L_311 (L_demandAfter_ok (B := B) hC x ha hX.1 (by omega) ho (by omega) (by omega) (by omega) (by omega)) rfl rfl (Nat.le_of_ble_eq_true rfl) (by decide) rfl (fun E F9 q => nomatch q.1) (fun v F2 q => ?_)
  obtain ⟨q, bv2, hC2, ⟨x1, x2, x3⟩, f2, hr2, hz2⟩ := q
  cases q
  have hbv2 : bv2 = c + 42 ∨ c + 142 ≤ bv2 := by omega
  have hM2 := hM.kept (F' := F2) (fun q a b => x3 q (by omega) (by omega) (by omega) (by omega))
  have ho2 := hr2
  have hod2 := (x3 (c + 141) (by omega) (by omega) (by omega) (by omega)).trans hod
  obtain ⟨g2, f9, A2, ⟨m0, -⟩, -⟩ := id hM2
  refine AF.istore dL_law_2163 (by decide) ?_
  refine AF.aload_n dL_law_2165 rfl ?_
  refine AF.aload_n dL_law_2166 rfl ?_
  refine AF.iload dL_law_2167 rfl ?_
  refine AF.iconst (nI 1) dL_law_2169 (by decide) ?_
  refine AF.iadd dL_law_2170 ?_
  rw [nI_add]
  refine AF.ialoadT (v := .int x) (i + 1) dL_law_2171 hs rfl (by omega) (by omega) (congrArg Value.int ex.symm) ?_
  refine AF.vw dL_law_2172 kv_L_313 (X9_demandAfter_ok hM2 (by omega) hX.1 (by omega) x) (by assumption) rfl rfl rfl (Nat.le_of_ble_eq_true rfl) (by decide) rfl (fun E F9 q => nomatch q.1) (fun v F q => ?_)
  obtain ⟨q, hM3, q3⟩ := q
  cases q
  have hC3 := hC2.kept (fun q a b => q3.2 q (by omega)) (q3.2 bv2 (by omega)) (Nat.le_of_eq q3.1.symm)
  have ho3 := (q3.2 (c + 140) (by omega)).trans ho2
  have hod3 := (q3.2 (c + 141) (by omega)).trans hod2
  clear m0
  obtain ⟨g3, f9, A3, ⟨m0, -⟩, -⟩ := id hM3
  have hLI : LI G c F X (B + 2500) := ⟨bv2, _, f2, g, hC3, hM3, ⟨ho3, hod3⟩, hbv2, by have := q3.1; omega, hX.mono (by omega) hB⟩
  refine AF.istore dL_law_2175 (by decide) ?_
  refine AF.aload_n dL_law_2177 rfl ?_
  refine AF.v1 dL_law_2178 kv_L_163 ((X9_thrown_ok hM3)) (by assumption) rfl rfl rfl (Nat.le_of_ble_eq_true rfl) (by decide) rfl ?_
  refine AF.iload dL_law_2181 rfl ?_
  refine AF.icmp_eq 2188 dL_law_2183 (by decide) (fun h1 => ?_) (fun h1 => ?_)
  · refine AF.iload dL_law_2188 rfl ?_
    refine AF.if_ne 2205 dL_law_2190 (by decide) (fun h2 => ?_) (fun h2 => ?_)
    · refine AF.goto 2880 dL_law_2205 (by decide) ?_
      exact next F _ _ _ _ hLI
    · have h2 : nI (if inB x 0 40 = true then 0 else 1) = nI 0 := h2
      rw [nI_eq (by omega) (by omega)] at h2
      refine AF.aload_n dL_law_2193 rfl ?_
      refine AF.iconst (nI 0) dL_law_2194 (by decide) ?_
      refine AF.laload 0 dL_law_2195 ho3 rfl (by omega) (by decide) ?_
      rw [hz2 h2]
      refine AF.iload dL_law_2196 rfl ?_
      refine AF.i2l dL_law_2198 ?_
      rw [if_pos h2]
      refine AF.lcmp dL_law_2199 ?_
      rw [lcmp_self]
      refine AF.if_eq 2205 dL_law_2200 (by decide) (fun h3 => ?_) (fun h3 => ?_)
      · refine AF.goto 2880 dL_law_2205 (by decide) ?_
        exact next F _ _ _ _ hLI
      · exact absurd rfl h3
  · exact absurd rfl h1
set_option maxRecDepth 100000 in
set_option maxHeartbeats 2000000 in
theorem LC44_ok (hL : LI G c F X B) (ha : gN G ≤ c) (hs : SCR G b L xs) (hi : i + 4 < L) (hl : L ≤ 2560) (hB : B + 2500 ≤ 2 ^ 21) (l6 l7 l8 : Option Value) (next : ∀ F' X' l6 l7 l8, LI G c F' X' (B + 2500) → AF G mL_law 13 bc bs R F' 2880 [some (.ref b), some (.ref c), some (.ref (c + 131)), some (.ref (c + 140)), some (.ref (c + 141)), some (.int (nI i)), l6, l7, l8] []) : AF G mL_law 13 (bc + 50) (bs + 6964) R F 2208 [some (.ref b), some (.ref c), some (.ref (c + 131)), some (.ref (c + 140)), some (.ref (c + 141)), some (.int (nI i)), l6, l7, l8] [] := by
  obtain ⟨bv, th, f, g, hC, hM, ⟨ho, hod⟩, hbv, hz, hX⟩ := hL
  obtain ⟨x, ex⟩ : ∃ z, z = xs (i + 1) := ⟨_, rfl⟩
  have hpr : (if inB x 0 40 = true then 0 else 1) ≤ 3 := by split <;> omega
  obtain ⟨hn, hf, ⟨c0, -⟩, -⟩ := id hC
  refine AF.less (d' := 13) (bc' := bc + 1) (bs' := bs + 6) ?_ (Nat.le_refl _) (by omega) (by omega)
  refine AF.aload_n dL_law_2208 rfl ?_
  refine AF.aload_n dL_law_2209 rfl ?_
  refine AF.iload dL_law_2210 rfl ?_
  refine AF.iconst (nI 1) dL_law_2212 (by decide) ?_
  refine AF.iadd dL_law_2213 ?_
  rw [nI_add]
  refine AF.ialoadT (v := .int x) (i + 1) dL_law_2214 hs rfl (by omega) (by omega) (congrArg Value.int ex.symm) ?_
  refine AF.aload_n dL_law_2215 rfl ?_
  refine AF.callSX (bc := bc) (bs := bs) (mc' := 1) (ms' := 6) dL_law_2216 kx_L_314 (L_demandAfterBySteps_ok (B := B) hC x hX.1 ho (by omega) (by omega) (by omega) (by omega)) rfl rfl (Nat.le_of_ble_eq_true rfl) (by decide) rfl (fun E F9 q => nomatch q.1) (fun v F2 q => ?_)
  obtain ⟨q, bv2, hC2, ⟨x1, x2, x3⟩, f2, hr2, hz2⟩ := q
  cases q
  have hbv2 : bv2 = c + 42 ∨ c + 142 ≤ bv2 := by omega
  have hM2 := hM.kept (F' := F2) (fun q a b => x3 q (by omega) (by omega) (by omega) (by omega))
  have ho2 := hr2
  have hod2 := (x3 (c + 141) (by omega) (by omega) (by omega) (by omega)).trans hod
  obtain ⟨g2, f9, A2, ⟨m0, -⟩, -⟩ := id hM2
  refine AF.istore dL_law_2219 (by decide) ?_
  refine AF.aload_n dL_law_2221 rfl ?_
  refine AF.aload_n dL_law_2222 rfl ?_
  refine AF.iload dL_law_2223 rfl ?_
  refine AF.iconst (nI 1) dL_law_2225 (by decide) ?_
  refine AF.iadd dL_law_2226 ?_
  rw [nI_add]
  refine AF.ialoadT (v := .int x) (i + 1) dL_law_2227 hs rfl (by omega) (by omega) (congrArg Value.int ex.symm) ?_
  refine AF.vw dL_law_2228 kv_L_316 (X9_demandAfterBySteps_ok hM2 (by omega) hX.1 (by omega) x) (by assumption) rfl rfl rfl (Nat.le_of_ble_eq_true rfl) (by decide) rfl (fun E F9 q => nomatch q.1) (fun v F q => ?_)
  obtain ⟨q, hM3, q3⟩ := q
  cases q
  have hC3 := hC2.kept (fun q a b => q3.2 q (by omega)) (q3.2 bv2 (by omega)) (Nat.le_of_eq q3.1.symm)
  have ho3 := (q3.2 (c + 140) (by omega)).trans ho2
  have hod3 := (q3.2 (c + 141) (by omega)).trans hod2
  clear m0
  obtain ⟨g3, f9, A3, ⟨m0, -⟩, -⟩ := id hM3
  have hLI : LI G c F X (B + 2500) := ⟨bv2, _, f2, g, hC3, hM3, ⟨ho3, hod3⟩, hbv2, by have := q3.1; omega, hX.mono (by omega) hB⟩
  refine AF.istore dL_law_2231 (by decide) ?_
  refine AF.aload_n dL_law_2233 rfl ?_
  refine AF.v1 dL_law_2234 kv_L_163 ((X9_thrown_ok hM3)) (by assumption) rfl rfl rfl (Nat.le_of_ble_eq_true rfl) (by decide) rfl ?_
  refine AF.iload dL_law_2237 rfl ?_
  refine AF.icmp_eq 2244 dL_law_2239 (by decide) (fun h1 => ?_) (fun h1 => ?_)
  · refine AF.iload dL_law_2244 rfl ?_
    refine AF.if_ne 2261 dL_law_2246 (by decide) (fun h2 => ?_) (fun h2 => ?_)
    · refine AF.goto 2880 dL_law_2261 (by decide) ?_
      exact next F _ _ _ _ hLI
    · have h2 : nI (if inB x 0 40 = true then 0 else 1) = nI 0 := h2
      rw [nI_eq (by omega) (by omega)] at h2
      refine AF.aload_n dL_law_2249 rfl ?_
      refine AF.iconst (nI 0) dL_law_2250 (by decide) ?_
      refine AF.laload 0 dL_law_2251 ho3 rfl (by omega) (by decide) ?_
      rw [hz2 h2]
      refine AF.iload dL_law_2252 rfl ?_
      refine AF.i2l dL_law_2254 ?_
      rw [if_pos h2]
      refine AF.lcmp dL_law_2255 ?_
      rw [lcmp_self]
      refine AF.if_eq 2261 dL_law_2256 (by decide) (fun h3 => ?_) (fun h3 => ?_)
      · refine AF.goto 2880 dL_law_2261 (by decide) ?_
        exact next F _ _ _ _ hLI
      · exact absurd rfl h3
  · exact absurd rfl h1
end

