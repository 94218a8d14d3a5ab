/-! The law's loop; its beginning. -/
section
variable {G : GA} {b c L : Nat} {xs : Nat → Int32}
def LQ : AR → AH → Prop := fun r _ => r = .inl (some (.int 1))
set_option maxRecDepth 100000 in
set_option maxHeartbeats 8000000 in
theorem L_loop (ha : gN G ≤ c) (hs : SCR G b L xs) (hl : L ≤ 2560) : ∀ r k F X (l6 l7 l8 : Option Value), L < 5 * k + 5 * r + 5 → 5 * k ≤ 2560 + 5 → LI G c F X (2500 * k) → AF G mL_law 13 (50 * r) (6964 * r) LQ F 28 [some (.ref b), some (.ref c), some (.ref (c + 131)), some (.ref (c + 140)), some (.ref (c + 141)), some (.int (nI (5 * k))), l6, l7, l8] [] := by
  intro r
  have sb : ∀ k, 5 * k ≤ 2560 + 5 → (nI L - nI 5 < nI (5 * k) ↔ L < 5 * k + 5) := by
    intro k hk
    rw [Int32.lt_iff_toInt_lt, pk_sub_toInt (by omega) (by omega), nI_toInt (by omega)]
    omega
  have ex : ∀ k bc bs F (l6 l7 l8 : Option Value), AF G mL_law 13 bc bs LQ F 2886 [some (.ref b), some (.ref c), some (.ref (c + 131)), some (.ref (c + 140)), some (.ref (c + 141)), some (.int (nI (5 * k))), l6, l7, l8] [] := by
    intro k bc bs F l6 l7 l8
    refine AF.iconst (1) dL_law_2886 (by decide) ?_
    exact AF.zreturn dL_law_2887 rfl rfl rfl
  induction r with
  | zero =>
    intro k F X l6 l7 l8 hr hk hL
    refine AF.iload dL_law_28 rfl ?_
    refine AF.aload_n dL_law_30 rfl ?_
    refine AF.arraylengthT dL_law_31 hs rfl ?_
    refine AF.iconst (nI 5) dL_law_32 (by decide) ?_
    refine AF.isub dL_law_33 ?_
    refine AF.icmp_gt 2886 dL_law_34 (by decide) (fun h1 => ?_) (fun h1 => ?_)
    · exact ex k 0 0 F l6 l7 l8
    · exact absurd ((sb k hk).mpr (by omega)) h1
  | succ r ih =>
    intro k F X l6 l7 l8 hr hk hL
    refine AF.iload dL_law_28 rfl ?_
    refine AF.aload_n dL_law_30 rfl ?_
    refine AF.arraylengthT dL_law_31 hs rfl ?_
    refine AF.iconst (nI 5) dL_law_32 (by decide) ?_
    refine AF.isub dL_law_33 ?_
    refine AF.icmp_gt 2886 dL_law_34 (by decide) (fun h1 => ?_) (fun h1 => ?_)
    · exact ex k _ _ F l6 l7 l8
    · have h2 : ¬ L < 5 * k + 5 := fun q => h1 ((sb k hk).mpr q)
      obtain ⟨x, ex⟩ : ∃ x, x = xs (5 * k) := ⟨_, rfl⟩
      refine AF.aload_n dL_law_37 rfl ?_
      refine AF.iload dL_law_38 rfl ?_
      refine AF.ialoadT (v := .int x) (5 * k) dL_law_40 hs rfl (by omega) (by omega) (congrArg Value.int ex.symm) ?_
      refine AF.bipush 63 dL_law_41 (by decide) ?_
      refine AF.iand dL_law_43 ?_
      obtain ⟨j, hj, ej⟩ := and63 x
      rw [ej]
      have next : ∀ F' X' (l6 l7 l8 : Option Value), LI G c F' X' (2500 * k + 2500) → AF G mL_law 13 (50 * r) (6964 * r) LQ F' 2880 [some (.ref b), some (.ref c), some (.ref (c + 131)), some (.ref (c + 140)), some (.ref (c + 141)), some (.int (nI (5 * k))), l6, l7, l8] [] := by
        intro F' X' l6 l7 l8 hL'
        refine AF.iinc dL_law_2880 rfl (by decide) ?_
        rw [show Int32.ofInt 5 = nI 5 by decide, nI_add]
        refine AF.goto 28 dL_law_2883 (by decide) ?_
        exact ih (k + 1) F' X' l6 l7 l8 (by omega) (by omega) hL'
      show AF G mL_law 13 (50 * r + 50) (6964 * r + 6964) LQ F 44 [some (.ref b), some (.ref c), some (.ref (c + 131)), some (.ref (c + 140)), some (.ref (c + 141)), some (.int (nI (5 * k))), l6, l7, l8] [.int (nI j)]
      rcases (by omega : j = 0 ∨ j = 1 ∨ j = 2 ∨ j = 3 ∨ j = 4 ∨ j = 5 ∨ j = 6 ∨ j = 7 ∨ j = 8 ∨ j = 9 ∨ j = 10 ∨ j = 11 ∨ j = 12 ∨ j = 13 ∨ j = 14 ∨ j = 15 ∨ j = 16 ∨ j = 17 ∨ j = 18 ∨ j = 19 ∨ j = 20 ∨ j = 21 ∨ j = 22 ∨ j = 23 ∨ j = 24 ∨ j = 25 ∨ j = 26 ∨ j = 27 ∨ j = 28 ∨ j = 29 ∨ j = 30 ∨ j = 31 ∨ j = 32 ∨ j = 33 ∨ j = 34 ∨ j = 35 ∨ j = 36 ∨ j = 37 ∨ j = 38 ∨ j = 39 ∨ j = 40 ∨ j = 41 ∨ j = 42 ∨ j = 43 ∨ j = 44 ∨ j = 45 ∨ j = 46 ∨ j = 47 ∨ j = 48 ∨ j = 49 ∨ j = 50 ∨ j = 51 ∨ j = 52 ∨ j = 53 ∨ j = 54 ∨ j = 55 ∨ j = 56 ∨ j = 57 ∨ j = 58 ∨ j = 59 ∨ j = 60 ∨ j = 61 ∨ j = 62 ∨ j = 63) with rfl | rfl | rfl | rfl | rfl | rfl | rfl | rfl | rfl | rfl | rfl | rfl | rfl | rfl | rfl | rfl | rfl | rfl | rfl | rfl | rfl | rfl | rfl | rfl | rfl | rfl | rfl | rfl | rfl | rfl | rfl | rfl | rfl | rfl | rfl | rfl | rfl | rfl | rfl | rfl | rfl | rfl | rfl | rfl | rfl | rfl | rfl | rfl | rfl | rfl | rfl | rfl | rfl | rfl | rfl | rfl | rfl | rfl | rfl | rfl | rfl | rfl | rfl | rfl
      · refine AF.switchIn 296 dL_law_44 (by decide) (by decide) rfl (by decide) ?_
        exact LC0_ok hL ha hs (by omega) hl (by omega) l6 l7 l8 next
      · refine AF.switchIn 352 dL_law_44 (by decide) (by decide) rfl (by decide) ?_
        exact LC1_ok hL ha hs (by omega) hl (by omega) l6 l7 l8 next
      · refine AF.switchIn 408 dL_law_44 (by decide) (by decide) rfl (by decide) ?_
        exact LC2_ok hL ha hs (by omega) hl (by omega) l6 l7 l8 next
      · refine AF.switchIn 476 dL_law_44 (by decide) (by decide) rfl (by decide) ?_
        exact LC3_ok hL ha hs (by omega) hl (by omega) l6 l7 l8 next
      · refine AF.switchIn 489 dL_law_44 (by decide) (by decide) rfl (by decide) ?_
        exact LC4_ok hL ha hs (by omega) hl (by omega) l6 l7 l8 next
      · refine AF.switchIn 545 dL_law_44 (by decide) (by decide) rfl (by decide) ?_
        exact LC5_ok hL ha hs (by omega) hl (by omega) l6 l7 l8 next
      · refine AF.switchIn 601 dL_law_44 (by decide) (by decide) rfl (by decide) ?_
        exact LC6_ok hL ha hs (by omega) hl (by omega) l6 l7 l8 next
      · refine AF.switchIn 657 dL_law_44 (by decide) (by decide) rfl (by decide) ?_
        exact LC7_ok hL ha hs (by omega) hl (by omega) l6 l7 l8 next
      · refine AF.switchIn 713 dL_law_44 (by decide) (by decide) rfl (by decide) ?_
        exact LC8_ok hL ha hs (by omega) hl (by omega) l6 l7 l8 next
      · refine AF.switchIn 776 dL_law_44 (by decide) (by decide) rfl (by decide) ?_
        exact LC9_ok hL ha hs (by omega) hl (by omega) l6 l7 l8 next
      · refine AF.switchIn 789 dL_law_44 (by decide) (by decide) rfl (by decide) ?_
        exact LC10_ok hL ha hs (by omega) hl (by omega) l6 l7 l8 next
      · refine AF.switchIn 833 dL_law_44 (by decide) (by decide) rfl (by decide) ?_
        exact LC11_ok hL ha hs (by omega) hl (by omega) l6 l7 l8 next
      · refine AF.switchIn 889 dL_law_44 (by decide) (by decide) rfl (by decide) ?_
        exact LC12_ok hL ha hs (by omega) hl (by omega) l6 l7 l8 next
      · refine AF.switchIn 945 dL_law_44 (by decide) (by decide) rfl (by decide) ?_
        exact LC13_ok hL ha hs (by omega) hl (by omega) l6 l7 l8 next
      · refine AF.switchIn 958 dL_law_44 (by decide) (by decide) rfl (by decide) ?_
        exact LC14_ok hL ha hs (by omega) hl (by omega) l6 l7 l8 next
      · refine AF.switchIn 971 dL_law_44 (by decide) (by decide) rfl (by decide) ?_
        exact LC15_ok hL ha hs (by omega) hl (by omega) l6 l7 l8 next
      · refine AF.switchIn 1027 dL_law_44 (by decide) (by decide) rfl (by decide) ?_
        exact LC16_ok hL ha hs (by omega) hl (by omega) l6 l7 l8 next
      · refine AF.switchIn 1083 dL_law_44 (by decide) (by decide) rfl (by decide) ?_
        exact LC17_ok hL ha hs (by omega) hl (by omega) l6 l7 l8 next
      · refine AF.switchIn 1096 dL_law_44 (by decide) (by decide) rfl (by decide) ?_
        exact LC18_ok hL ha hs (by omega) hl (by omega) l6 l7 l8 next
      · refine AF.switchIn 1109 dL_law_44 (by decide) (by decide) rfl (by decide) ?_
        exact LC19_ok hL ha hs (by omega) hl (by omega) l6 l7 l8 next
      · refine AF.switchIn 1122 dL_law_44 (by decide) (by decide) rfl (by decide) ?_
        exact LC20_ok hL ha hs (by omega) hl (by omega) l6 l7 l8 next
      · refine AF.switchIn 1135 dL_law_44 (by decide) (by decide) rfl (by decide) ?_
        exact LC21_ok hL ha hs (by omega) hl (by omega) l6 l7 l8 next
      · refine AF.switchIn 1148 dL_law_44 (by decide) (by decide) rfl (by decide) ?_
        exact LC22_ok hL ha hs (by omega) hl (by omega) l6 l7 l8 next
      · refine AF.switchIn 1162 dL_law_44 (by decide) (by decide) rfl (by decide) ?_
        exact LC23_ok hL ha hs (by omega) hl (by omega) l6 l7 l8 next
      · refine AF.switchIn 1176 dL_law_44 (by decide) (by decide) rfl (by decide) ?_
        exact LC24_ok hL ha hs (by omega) hl (by omega) l6 l7 l8 next
      · refine AF.switchIn 1220 dL_law_44 (by decide) (by decide) rfl (by decide) ?_
        exact LC25_ok hL ha hs (by omega) hl (by omega) l6 l7 l8 next
      · refine AF.switchIn 1276 dL_law_44 (by decide) (by decide) rfl (by decide) ?_
        exact LC26_ok hL ha hs (by omega) hl (by omega) l6 l7 l8 next
      · refine AF.switchIn 1368 dL_law_44 (by decide) (by decide) rfl (by decide) ?_
        exact LC27_ok hL ha hs (by omega) hl (by omega) l6 l7 l8 next
      · refine AF.switchIn 1436 dL_law_44 (by decide) (by decide) rfl (by decide) ?_
        exact LC28_ok hL ha hs (by omega) hl (by omega) l6 l7 l8 next
      · refine AF.switchIn 1449 dL_law_44 (by decide) (by decide) rfl (by decide) ?_
        exact LC29_ok hL ha hs (by omega) hl (by omega) l6 l7 l8 next
      · refine AF.switchIn 1505 dL_law_44 (by decide) (by decide) rfl (by decide) ?_
        exact LC30_ok hL ha hs (by omega) hl (by omega) l6 l7 l8 next
      · refine AF.switchIn 1573 dL_law_44 (by decide) (by decide) rfl (by decide) ?_
        exact LC31_ok hL ha hs (by omega) hl (by omega) l6 l7 l8 next
      · refine AF.switchIn 1641 dL_law_44 (by decide) (by decide) rfl (by decide) ?_
        exact LC32_ok hL ha hs (by omega) hl (by omega) l6 l7 l8 next
      · refine AF.switchIn 1709 dL_law_44 (by decide) (by decide) rfl (by decide) ?_
        exact LC33_ok hL ha hs (by omega) hl (by omega) l6 l7 l8 next
      · refine AF.switchIn 1765 dL_law_44 (by decide) (by decide) rfl (by decide) ?_
        exact LC34_ok hL ha hs (by omega) hl (by omega) l6 l7 l8 next
      · refine AF.switchIn 1821 dL_law_44 (by decide) (by decide) rfl (by decide) ?_
        exact LC35_ok hL ha hs (by omega) hl (by omega) l6 l7 l8 next
      · refine AF.switchIn 1889 dL_law_44 (by decide) (by decide) rfl (by decide) ?_
        exact LC36_ok hL ha hs (by omega) hl (by omega) l6 l7 l8 next
      · refine AF.switchIn 1945 dL_law_44 (by decide) (by decide) rfl (by decide) ?_
        exact LC37_ok hL ha hs (by omega) hl (by omega) l6 l7 l8 next
      · refine AF.switchIn 2001 dL_law_44 (by decide) (by decide) rfl (by decide) ?_
        exact LC38_ok hL ha hs (by omega) hl (by omega) l6 l7 l8 next
      · refine AF.switchIn 2014 dL_law_44 (by decide) (by decide) rfl (by decide) ?_
        exact LC39_ok hL ha hs (by omega) hl (by omega) l6 l7 l8 next
      · refine AF.switchIn 2027 dL_law_44 (by decide) (by decide) rfl (by decide) ?_
        exact LC40_ok hL ha hs (by omega) hl (by omega) l6 l7 l8 next
      · refine AF.switchIn 2083 dL_law_44 (by decide) (by decide) rfl (by decide) ?_
        exact LC41_ok hL ha hs (by omega) hl (by omega) l6 l7 l8 next
      · refine AF.switchIn 2139 dL_law_44 (by decide) (by decide) rfl (by decide) ?_
        exact LC42_ok hL ha hs (by omega) hl (by omega) l6 l7 l8 next
      · refine AF.switchIn 2152 dL_law_44 (by decide) (by decide) rfl (by decide) ?_
        exact LC43_ok hL ha hs (by omega) hl (by omega) l6 l7 l8 next
      · refine AF.switchIn 2208 dL_law_44 (by decide) (by decide) rfl (by decide) ?_
        exact LC44_ok hL ha hs (by omega) hl (by omega) l6 l7 l8 next
      · refine AF.switchIn 2264 dL_law_44 (by decide) (by decide) rfl (by decide) ?_
        exact LC45_ok hL ha hs (by omega) hl (by omega) l6 l7 l8 next
      · refine AF.switchIn 2320 dL_law_44 (by decide) (by decide) rfl (by decide) ?_
        exact LC46_ok hL ha hs (by omega) hl (by omega) l6 l7 l8 next
      · refine AF.switchIn 2385 dL_law_44 (by decide) (by decide) rfl (by decide) ?_
        exact LC47_ok hL ha hs (by omega) hl (by omega) l6 l7 l8 next
      · refine AF.switchIn 2451 dL_law_44 (by decide) (by decide) rfl (by decide) ?_
        exact LC48_ok hL ha hs (by omega) hl (by omega) l6 l7 l8 next
      · refine AF.switchIn 2507 dL_law_44 (by decide) (by decide) rfl (by decide) ?_
        exact LC49_ok hL ha hs (by omega) hl (by omega) l6 l7 l8 next
      · refine AF.switchIn 2563 dL_law_44 (by decide) (by decide) rfl (by decide) ?_
        exact LC50_ok hL ha hs (by omega) hl (by omega) l6 l7 l8 next
      · refine AF.switchIn 2576 dL_law_44 (by decide) (by decide) rfl (by decide) ?_
        exact LC51_ok hL ha hs (by omega) hl (by omega) l6 l7 l8 next
      · refine AF.switchIn 2634 dL_law_44 (by decide) (by decide) rfl (by decide) ?_
        exact LC52_ok hL ha hs (by omega) hl (by omega) l6 l7 l8 next
      · refine AF.switchIn 2678 dL_law_44 (by decide) (by decide) rfl (by decide) ?_
        exact LC53_ok hL ha hs (by omega) hl (by omega) l6 l7 l8 next
      · refine AF.switchIn 2722 dL_law_44 (by decide) (by decide) rfl (by decide) ?_
        exact LC54_ok hL ha hs (by omega) hl (by omega) l6 l7 l8 next
      · refine AF.switchIn 2766 dL_law_44 (by decide) (by decide) rfl (by decide) ?_
        exact LC55_ok hL ha hs (by omega) hl (by omega) l6 l7 l8 next
      · refine AF.switchIn 2810 dL_law_44 (by decide) (by decide) rfl (by decide) ?_
        exact LC56_ok hL ha hs (by omega) hl (by omega) l6 l7 l8 next
      · refine AF.switchIn 2823 dL_law_44 (by decide) (by decide) rfl (by decide) ?_
        exact LC57_ok hL ha hs (by omega) hl (by omega) l6 l7 l8 next
      · refine AF.switchIn 2836 dL_law_44 (by decide) (by decide) rfl (by decide) ?_
        exact LC58_ok hL ha hs (by omega) hl (by omega) l6 l7 l8 next
      · refine AF.switchOut 2880 dL_law_44 (by decide) (by decide) ?_
        obtain ⟨bv, th, f, g, q1, q2, q3, q4, q5, q6⟩ := hL
        refine AF.less (d' := 13) ?_ (Nat.le_refl _) (show 50 * r ≤ 50 * r + 50 by omega) (show 6964 * r ≤ 6964 * r + 6964 by omega)
        exact next F X l6 l7 l8 ⟨bv, th, f, g, q1, q2, q3, q4, q5, q6.mono (by omega) (by omega)⟩
      · refine AF.switchOut 2880 dL_law_44 (by decide) (by decide) ?_
        obtain ⟨bv, th, f, g, q1, q2, q3, q4, q5, q6⟩ := hL
        refine AF.less (d' := 13) ?_ (Nat.le_refl _) (show 50 * r ≤ 50 * r + 50 by omega) (show 6964 * r ≤ 6964 * r + 6964 by omega)
        exact next F X l6 l7 l8 ⟨bv, th, f, g, q1, q2, q3, q4, q5, q6.mono (by omega) (by omega)⟩
      · refine AF.switchOut 2880 dL_law_44 (by decide) (by decide) ?_
        obtain ⟨bv, th, f, g, q1, q2, q3, q4, q5, q6⟩ := hL
        refine AF.less (d' := 13) ?_ (Nat.le_refl _) (show 50 * r ≤ 50 * r + 50 by omega) (show 6964 * r ≤ 6964 * r + 6964 by omega)
        exact next F X l6 l7 l8 ⟨bv, th, f, g, q1, q2, q3, q4, q5, q6.mono (by omega) (by omega)⟩
      · refine AF.switchOut 2880 dL_law_44 (by decide) (by decide) ?_
        obtain ⟨bv, th, f, g, q1, q2, q3, q4, q5, q6⟩ := hL
        refine AF.less (d' := 13) ?_ (Nat.le_refl _) (show 50 * r ≤ 50 * r + 50 by omega) (show 6964 * r ≤ 6964 * r + 6964 by omega)
        exact next F X l6 l7 l8 ⟨bv, th, f, g, q1, q2, q3, q4, q5, q6.mono (by omega) (by omega)⟩
      · refine AF.switchOut 2880 dL_law_44 (by decide) (by decide) ?_
        obtain ⟨bv, th, f, g, q1, q2, q3, q4, q5, q6⟩ := hL
        refine AF.less (d' := 13) ?_ (Nat.le_refl _) (show 50 * r ≤ 50 * r + 50 by omega) (show 6964 * r ≤ 6964 * r + 6964 by omega)
        exact next F X l6 l7 l8 ⟨bv, th, f, g, q1, q2, q3, q4, q5, q6.mono (by omega) (by omega)⟩
set_option maxRecDepth 100000 in
set_option maxHeartbeats 4000000 in
theorem L_law_ok {F0 : AH} (hc : gN G ≤ c) (hz : F0.1 = c) (hs : SCR G b L xs) (hl : L ≤ 2560) : AF G mL_law 13 (50 * 513 + 142) (6964 * 513 + 4569) LQ F0 0 [some (.ref b), none, none, none, none, none, none, none, none] [] := by
  refine AF.new (n := 12) (bc := 50 * 513 + 141) (bs := 6964 * 513 + 4557) dL_law_0 kn_L_8 rfl ?_
  intro F e9 h9 o9
  rw [hz] at e9 h9 ⊢
  refine AF.dup dL_law_3 rfl ?_
  refine AF.callI (mc' := 130) (ms' := 2101) (bc := 50 * 513 + 11) (bs := 6964 * 513 + 2456) dL_law_4 kv_L_153 (X8_init_ok h9 hc e9) rfl rfl (Nat.le_of_ble_eq_true rfl) (by decide) rfl (fun E F9 q => nomatch q.1) (fun v F2 q => ?_)
  obtain ⟨q, hC, m1, m2⟩ := q
  cases q
  clear e9 h9 o9 hz
  refine AF.astore_n dL_law_7 (by decide) ?_
  refine AF.new (n := 20) (bc := 50 * 513 + 10) (bs := 6964 * 513 + 2436) dL_law_8 kn_L_154 rfl ?_
  intro F3 e9 h9 o9
  rw [m1] at e9 h9 o9 ⊢
  have hC3 := hC.kept (F' := F3) (fun q a b => o9 q (by omega)) (o9 (c + 42) (by omega)) (by rw [e9, m1]; omega)
  refine AF.dup dL_law_11 rfl ?_
  refine AF.callI (mc' := 8) (ms' := 2434) (bc := 50 * 513 + 2) (bs := 6964 * 513 + 2) dL_law_12 kv_L_156 (X9_init_ok h9 (by omega) e9) rfl rfl (Nat.le_of_ble_eq_true rfl) (by decide) rfl (fun E F9 q => nomatch q.1) (fun v F4 q => ?_)
  obtain ⟨q, hM, n1, n2⟩ := q
  cases q
  have hC4 := hC3.kept (F' := F4) (fun q a b => n2 q (by omega)) (n2 (c + 42) (by omega)) (by rw [n1, e9]; omega)
  clear e9 h9 o9 hC hC3
  refine AF.astore_n dL_law_15 (by decide) ?_
  refine AF.iconst (nI 1) dL_law_16 (by decide) ?_
  refine AF.newJ (n := 1) (bc := 50 * 513 + 1) (bs := 6964 * 513 + 1) dL_law_17 aw_long rfl (by decide) ?_
  intro F5 e9 h9 o9
  rw [n1] at e9 h9 o9 ⊢
  have hC5 := hC4.kept (F' := F5) (fun q a b => o9 q (by omega)) (o9 (c + 42) (by omega)) (by rw [e9, n1]; omega)
  have hM5 := hM.kept (F' := F5) (fun q a b => o9 q (by omega))
  refine AF.astore_n dL_law_19 (by decide) ?_
  refine AF.iconst (nI 1) dL_law_20 (by decide) ?_
  refine AF.newD (n := 1) (bc := 50 * 513) (bs := 6964 * 513) dL_law_21 aw_double rfl (by decide) ?_
  intro F6 e8 h8 o8
  rw [e9] at e8 h8 o8 ⊢
  have hC6 := hC5.kept (F' := F6) (fun q a b => o8 q (by omega)) (o8 (c + 42) (by omega)) (by rw [e8, e9]; omega)
  have hM6 := hM5.kept (F' := F6) (fun q a b => o8 q (by omega))
  have h7 := (o8 (c + 131 + 9) (by omega)).trans h9
  refine AF.astore dL_law_23 (by decide) ?_
  refine AF.iconst (nI 0) dL_law_25 (by decide) ?_
  refine AF.istore dL_law_26 (by decide) ?_
  exact L_loop hc hs hl 513 0 F6 X0 none none none (by omega) (by omega) ⟨c + 42, 0, _, _, hC6, hM6, ⟨h7, h8⟩, Or.inl rfl, by rw [e8]; omega, XI.x0⟩
end

