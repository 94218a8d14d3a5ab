/-! The law's calls 15 to 29: from one state known to the next. -/
section
variable {G : GA} {F : AH} {b c L i B bc bs : Nat} {xs : Nat → Int32} {X : XS} {R : AR → AH → Prop}
set_option maxRecDepth 100000 in
set_option maxHeartbeats 2000000 in
theorem LC15_ok (hL : LI G c F X B) (ha : gN G ≤ c) (hs : SCR G b L xs) (hi : i + 4 < L) (hl : L ≤ 2560) (hB : B + 2500 ≤ 2 ^ 21) (l6 l7 l8 : Option Value) (next : ∀ F' X' l6 l7 l8, LI G c F' X' (B + 2500) → AF G mL_law 13 bc bs R F' 2880 [some (.ref b), some (.ref c), some (.ref (c + 131)), some (.ref (c + 140)), some (.ref (c + 141)), some (.int (nI i)), l6, l7, l8] []) : AF G mL_law 13 (bc + 50) (bs + 6964) R F 971 [some (.ref b), some (.ref c), some (.ref (c + 131)), some (.ref (c + 140)), some (.ref (c + 141)), some (.int (nI i)), l6, l7, l8] [] := by
  obtain ⟨bv, th, f, g, hC, hM, ⟨ho, hod⟩, hbv, hz, hX⟩ := hL
  obtain ⟨x, ex⟩ : ∃ z, z = xs (i + 1) := ⟨_, rfl⟩
  have hpr : (pCap x / 2) ≤ 3 := by have := pCap_v (x := x); omega
  obtain ⟨hn, hf, ⟨c0, -⟩, -⟩ := id hC
  refine AF.less (d' := 13) (bc' := bc + 1) (bs' := bs + 6) ?_ (Nat.le_refl _) (by omega) (by omega)
  refine AF.aload_n dL_law_971 rfl ?_
  refine AF.aload_n dL_law_972 rfl ?_
  refine AF.iload dL_law_973 rfl ?_
  refine AF.iconst (nI 1) dL_law_975 (by decide) ?_
  refine AF.iadd dL_law_976 ?_
  rw [nI_add]
  refine AF.ialoadT (v := .int x) (i + 1) dL_law_977 hs rfl (by omega) (by omega) (congrArg Value.int ex.symm) ?_
  refine AF.aload_n dL_law_978 rfl ?_
  refine AF.callSX (bc := bc) (bs := bs) (mc' := 1) (ms' := 6) dL_law_979 kx_L_214 (L_setCapacity_ok (B := B) hC x ha hX.1 ho (by omega) (by omega) (by omega) (by omega)) rfl rfl (Nat.le_of_ble_eq_true rfl) (by decide) rfl (fun E F9 q => nomatch q.1) (fun v F2 q => ?_)
  obtain ⟨q, bv2, hC2, ⟨x1, x2, x3⟩, f2, hr2, hz2⟩ := q
  cases q
  have hbv2 : bv2 = c + 42 ∨ c + 142 ≤ bv2 := by omega
  have hM2 := hM.kept (F' := F2) (fun q a b => x3 q (by omega) (by omega) (by omega) (by omega))
  have ho2 := hr2
  have hod2 := (x3 (c + 141) (by omega) (by omega) (by omega) (by omega)).trans hod
  obtain ⟨g2, f9, A2, ⟨m0, -⟩, -⟩ := id hM2
  refine AF.istore dL_law_982 (by decide) ?_
  refine AF.aload_n dL_law_984 rfl ?_
  refine AF.aload_n dL_law_985 rfl ?_
  refine AF.iload dL_law_986 rfl ?_
  refine AF.iconst (nI 1) dL_law_988 (by decide) ?_
  refine AF.iadd dL_law_989 ?_
  rw [nI_add]
  refine AF.ialoadT (v := .int x) (i + 1) dL_law_990 hs rfl (by omega) (by omega) (congrArg Value.int ex.symm) ?_
  refine AF.vw dL_law_991 kv_L_216 (X9_setCapacity_ok hM2 (by omega) x) (by assumption) rfl rfl rfl (Nat.le_of_ble_eq_true rfl) (by decide) rfl (fun E F9 q => nomatch q.1) (fun v F q => ?_)
  obtain ⟨q, hM3, q3⟩ := q
  cases q
  have hC3 := hC2.kept (fun q a b => q3.2 q (by omega)) (q3.2 bv2 (by omega)) (Nat.le_of_eq q3.1.symm)
  have ho3 := (q3.2 (c + 140) (by omega)).trans ho2
  have hod3 := (q3.2 (c + 141) (by omega)).trans hod2
  clear m0
  obtain ⟨g3, f9, A3, ⟨m0, -⟩, -⟩ := id hM3
  have hLI : LI G c F (chX X (aCap X.sg x) (pCap x / 2)) (B + 2500) := ⟨bv2, _, f2, g, hC3, hM3, ⟨ho3, hod3⟩, hbv2, by have := q3.1; omega, XI.ch hX (fun q => ((hX.1.capq (by have := pCap_v (x := x); omega)).1).mono (by omega) (by omega)) (by omega) hB⟩
  refine AF.istore dL_law_994 (by decide) ?_
  refine AF.aload_n dL_law_996 rfl ?_
  refine AF.v1 dL_law_997 kv_L_163 ((X9_thrown_ok hM3)) (by assumption) rfl rfl rfl (Nat.le_of_ble_eq_true rfl) (by decide) rfl ?_
  refine AF.iload dL_law_1000 rfl ?_
  refine AF.icmp_eq 1007 dL_law_1002 (by decide) (fun h1 => ?_) (fun h1 => ?_)
  · refine AF.iload dL_law_1007 rfl ?_
    refine AF.if_ne 1024 dL_law_1009 (by decide) (fun h2 => ?_) (fun h2 => ?_)
    · refine AF.goto 2880 dL_law_1024 (by decide) ?_
      exact next F _ _ _ _ hLI
    · have h2 : nI (pCap x / 2) = nI 0 := h2
      rw [nI_eq (by omega) (by omega)] at h2
      refine AF.aload_n dL_law_1012 rfl ?_
      refine AF.iconst (nI 0) dL_law_1013 (by decide) ?_
      refine AF.laload 0 dL_law_1014 ho3 rfl (by omega) (by decide) ?_
      rw [hz2 h2]
      refine AF.iload dL_law_1015 rfl ?_
      refine AF.i2l dL_law_1017 ?_
      rw [if_pos h2]
      refine AF.lcmp dL_law_1018 ?_
      rw [lcmp_self]
      refine AF.if_eq 1024 dL_law_1019 (by decide) (fun h3 => ?_) (fun h3 => ?_)
      · refine AF.goto 2880 dL_law_1024 (by decide) ?_
        exact next F _ _ _ _ hLI
      · exact absurd rfl h3
  · exact absurd rfl h1
set_option maxRecDepth 100000 in
set_option maxHeartbeats 2000000 in
theorem LC16_ok (hL : LI G c F X B) (ha : gN G ≤ c) (hs : SCR G b L xs) (hi : i + 4 < L) (hl : L ≤ 2560) (hB : B + 2500 ≤ 2 ^ 21) (l6 l7 l8 : Option Value) (next : ∀ F' X' l6 l7 l8, LI G c F' X' (B + 2500) → AF G mL_law 13 bc bs R F' 2880 [some (.ref b), some (.ref c), some (.ref (c + 131)), some (.ref (c + 140)), some (.ref (c + 141)), some (.int (nI i)), l6, l7, l8] []) : AF G mL_law 13 (bc + 50) (bs + 6964) R F 1027 [some (.ref b), some (.ref c), some (.ref (c + 131)), some (.ref (c + 140)), some (.ref (c + 141)), some (.int (nI i)), l6, l7, l8] [] := by
  obtain ⟨bv, th, f, g, hC, hM, ⟨ho, hod⟩, hbv, hz, hX⟩ := hL
  obtain ⟨x, ex⟩ : ∃ z, z = xs (i + 1) := ⟨_, rfl⟩
  have hpr : (pWnd x / 2) ≤ 3 := by have := pWnd_v (x := x); omega
  obtain ⟨hn, hf, ⟨c0, -⟩, -⟩ := id hC
  refine AF.less (d' := 13) (bc' := bc + 1) (bs' := bs + 6) ?_ (Nat.le_refl _) (by omega) (by omega)
  refine AF.aload_n dL_law_1027 rfl ?_
  refine AF.aload_n dL_law_1028 rfl ?_
  refine AF.iload dL_law_1029 rfl ?_
  refine AF.iconst (nI 1) dL_law_1031 (by decide) ?_
  refine AF.iadd dL_law_1032 ?_
  rw [nI_add]
  refine AF.ialoadT (v := .int x) (i + 1) dL_law_1033 hs rfl (by omega) (by omega) (congrArg Value.int ex.symm) ?_
  refine AF.aload_n dL_law_1034 rfl ?_
  refine AF.callSX (bc := bc) (bs := bs) (mc' := 1) (ms' := 6) dL_law_1035 kx_L_217 (L_setWind_ok (B := B) hC x ha hX.1 ho (by omega) (by omega) (by omega) (by omega)) rfl rfl (Nat.le_of_ble_eq_true rfl) (by decide) rfl (fun E F9 q => nomatch q.1) (fun v F2 q => ?_)
  obtain ⟨q, bv2, hC2, ⟨x1, x2, x3⟩, f2, hr2, hz2⟩ := q
  cases q
  have hbv2 : bv2 = c + 42 ∨ c + 142 ≤ bv2 := by omega
  have hM2 := hM.kept (F' := F2) (fun q a b => x3 q (by omega) (by omega) (by omega) (by omega))
  have ho2 := hr2
  have hod2 := (x3 (c + 141) (by omega) (by omega) (by omega) (by omega)).trans hod
  obtain ⟨g2, f9, A2, ⟨m0, -⟩, -⟩ := id hM2
  refine AF.istore dL_law_1038 (by decide) ?_
  refine AF.aload_n dL_law_1040 rfl ?_
  refine AF.aload_n dL_law_1041 rfl ?_
  refine AF.iload dL_law_1042 rfl ?_
  refine AF.iconst (nI 1) dL_law_1044 (by decide) ?_
  refine AF.iadd dL_law_1045 ?_
  rw [nI_add]
  refine AF.ialoadT (v := .int x) (i + 1) dL_law_1046 hs rfl (by omega) (by omega) (congrArg Value.int ex.symm) ?_
  refine AF.vw dL_law_1047 kv_L_219 (X9_setWind_ok hM2 (by omega) x) (by assumption) rfl rfl rfl (Nat.le_of_ble_eq_true rfl) (by decide) rfl (fun E F9 q => nomatch q.1) (fun v F q => ?_)
  obtain ⟨q, hM3, q3⟩ := q
  cases q
  have hC3 := hC2.kept (fun q a b => q3.2 q (by omega)) (q3.2 bv2 (by omega)) (Nat.le_of_eq q3.1.symm)
  have ho3 := (q3.2 (c + 140) (by omega)).trans ho2
  have hod3 := (q3.2 (c + 141) (by omega)).trans hod2
  clear m0
  obtain ⟨g3, f9, A3, ⟨m0, -⟩, -⟩ := id hM3
  have hLI : LI G c F (chX X (aWnd X.sg x) (pWnd x / 2)) (B + 2500) := ⟨bv2, _, f2, g, hC3, hM3, ⟨ho3, hod3⟩, hbv2, by have := q3.1; omega, XI.ch hX (fun q => (hX.1.wnd).mono (by omega) (by omega)) (by omega) hB⟩
  refine AF.istore dL_law_1050 (by decide) ?_
  refine AF.aload_n dL_law_1052 rfl ?_
  refine AF.v1 dL_law_1053 kv_L_163 ((X9_thrown_ok hM3)) (by assumption) rfl rfl rfl (Nat.le_of_ble_eq_true rfl) (by decide) rfl ?_
  refine AF.iload dL_law_1056 rfl ?_
  refine AF.icmp_eq 1063 dL_law_1058 (by decide) (fun h1 => ?_) (fun h1 => ?_)
  · refine AF.iload dL_law_1063 rfl ?_
    refine AF.if_ne 1080 dL_law_1065 (by decide) (fun h2 => ?_) (fun h2 => ?_)
    · refine AF.goto 2880 dL_law_1080 (by decide) ?_
      exact next F _ _ _ _ hLI
    · have h2 : nI (pWnd x / 2) = nI 0 := h2
      rw [nI_eq (by omega) (by omega)] at h2
      refine AF.aload_n dL_law_1068 rfl ?_
      refine AF.iconst (nI 0) dL_law_1069 (by decide) ?_
      refine AF.laload 0 dL_law_1070 ho3 rfl (by omega) (by decide) ?_
      rw [hz2 h2]
      refine AF.iload dL_law_1071 rfl ?_
      refine AF.i2l dL_law_1073 ?_
      rw [if_pos h2]
      refine AF.lcmp dL_law_1074 ?_
      rw [lcmp_self]
      refine AF.if_eq 1080 dL_law_1075 (by decide) (fun h3 => ?_) (fun h3 => ?_)
      · refine AF.goto 2880 dL_law_1080 (by decide) ?_
        exact next F _ _ _ _ hLI
      · exact absurd rfl h3
  · exact absurd rfl h1
set_option maxRecDepth 100000 in
set_option maxHeartbeats 2000000 in
theorem LC17_ok (hL : LI G c F X B) (ha : gN G ≤ c) (hs : SCR G b L xs) (hi : i + 4 < L) (hl : L ≤ 2560) (hB : B + 2500 ≤ 2 ^ 21) (l6 l7 l8 : Option Value) (next : ∀ F' X' l6 l7 l8, LI G c F' X' (B + 2500) → AF G mL_law 13 bc bs R F' 2880 [some (.ref b), some (.ref c), some (.ref (c + 131)), some (.ref (c + 140)), some (.ref (c + 141)), some (.int (nI i)), l6, l7, l8] []) : AF G mL_law 13 (bc + 50) (bs + 6964) R F 1083 [some (.ref b), some (.ref c), some (.ref (c + 131)), some (.ref (c + 140)), some (.ref (c + 141)), some (.int (nI i)), l6, l7, l8] [] := by
  obtain ⟨bv, th, f, g, hC, hM, ⟨ho, hod⟩, hbv, hz, hX⟩ := hL
  obtain ⟨hn, hf, ⟨c0, -⟩, -⟩ := id hC
  refine AF.less (d' := 13) (bc' := bc) (bs' := bs) ?_ (Nat.le_refl _) (by omega) (by omega)
  refine AF.aload_n dL_law_1083 rfl ?_
  refine AF.vw dL_law_1084 kv_L_220 (X8_trim_ok hC ha hX.1) c0 rfl rfl rfl (Nat.le_of_ble_eq_true rfl) (by decide) rfl (fun E F9 q => absurd rfl (rx_x q.1).1) (fun v F2 q => ?_)
  obtain ⟨q, bv2, hC2, x1, x2, x3⟩ := q
  obtain ⟨-, q⟩ := rx_n q
  cases q
  have hbv2 : bv2 = c + 42 ∨ c + 142 ≤ bv2 := by omega
  have hM2 := hM.kept (F' := F2) (fun q a b => x3 q (by omega) (by omega) (by omega))
  have ho2 := (x3 (c + 140) (by omega) (by omega) (by omega)).trans ho
  have hod2 := (x3 (c + 141) (by omega) (by omega) (by omega)).trans hod
  obtain ⟨g2, f9, A2, ⟨m0, -⟩, -⟩ := id hM2
  refine AF.aload_n dL_law_1087 rfl ?_
  refine AF.vw dL_law_1088 kv_L_223 (X9_trim_ok hM2 (by omega) hX.1) (by assumption) rfl rfl rfl (Nat.le_of_ble_eq_true rfl) (by decide) rfl (fun E F9 q => nomatch q.1) (fun v F q => ?_)
  obtain ⟨q, hM3, q3⟩ := q
  cases q
  have hC3 := hC2.kept (fun q a b => q3.2 q (by omega)) (q3.2 bv2 (by omega)) (Nat.le_of_eq q3.1.symm)
  have ho3 := (q3.2 (c + 140) (by omega)).trans ho2
  have hod3 := (q3.2 (c + 141) (by omega)).trans hod2
  have hLI : LI G c F _ (B + 2500) := ⟨bv2, _, f, g, hC3, hM3, ⟨ho3, hod3⟩, hbv2, by have := q3.1; omega, XI.ch hX (fun q => hX.1.trim.mono (by omega) (by omega)) (by omega) hB⟩
  refine AF.icmp_eq 2880 dL_law_1091 (by decide) (fun h1 => ?_) (fun h1 => ?_)
  · exact next F _ _ _ _ hLI
  · exact absurd rfl h1
set_option maxRecDepth 100000 in
set_option maxHeartbeats 2000000 in
theorem LC18_ok (hL : LI G c F X B) (ha : gN G ≤ c) (hs : SCR G b L xs) (hi : i + 4 < L) (hl : L ≤ 2560) (hB : B + 2500 ≤ 2 ^ 21) (l6 l7 l8 : Option Value) (next : ∀ F' X' l6 l7 l8, LI G c F' X' (B + 2500) → AF G mL_law 13 bc bs R F' 2880 [some (.ref b), some (.ref c), some (.ref (c + 131)), some (.ref (c + 140)), some (.ref (c + 141)), some (.int (nI i)), l6, l7, l8] []) : AF G mL_law 13 (bc + 50) (bs + 6964) R F 1096 [some (.ref b), some (.ref c), some (.ref (c + 131)), some (.ref (c + 140)), some (.ref (c + 141)), some (.int (nI i)), l6, l7, l8] [] := by
  obtain ⟨bv, th, f, g, hC, hM, ⟨ho, hod⟩, hbv, hz, hX⟩ := hL
  obtain ⟨hn, hf, ⟨c0, -⟩, -⟩ := id hC
  refine AF.less (d' := 13) (bc' := bc) (bs' := bs) ?_ (Nat.le_refl _) (by omega) (by omega)
  refine AF.aload_n dL_law_1096 rfl ?_
  refine AF.vw dL_law_1097 kv_L_224 (X8_capacity_ok hC) c0 rfl rfl rfl (Nat.le_of_ble_eq_true rfl) (by decide) rfl (fun E F9 q => absurd rfl (rx_x q.1).1) (fun v F2 q => ?_)
  obtain ⟨q, bv2, hC2, x1, x2, x3⟩ := q
  obtain ⟨-, q⟩ := rx_n q
  cases q
  have hbv2 : bv2 = c + 42 ∨ c + 142 ≤ bv2 := by omega
  have hM2 := hM.kept (F' := F2) (fun q a b => x3 q (by omega) (by omega) (by omega))
  have ho2 := (x3 (c + 140) (by omega) (by omega) (by omega)).trans ho
  have hod2 := (x3 (c + 141) (by omega) (by omega) (by omega)).trans hod
  obtain ⟨g2, f9, A2, ⟨m0, -⟩, -⟩ := id hM2
  refine AF.aload_n dL_law_1100 rfl ?_
  refine AF.vw dL_law_1101 kv_L_227 (X9_capacity_ok hM2 (by omega)) (by assumption) rfl rfl rfl (Nat.le_of_ble_eq_true rfl) (by decide) rfl (fun E F9 q => nomatch q.1) (fun v F q => ?_)
  obtain ⟨q, hM3, q3⟩ := q
  cases q
  have hC3 := hC2.kept (fun q a b => q3.2 q (by omega)) (q3.2 bv2 (by omega)) (Nat.le_of_eq q3.1.symm)
  have ho3 := (q3.2 (c + 140) (by omega)).trans ho2
  have hod3 := (q3.2 (c + 141) (by omega)).trans hod2
  have hLI : LI G c F _ (B + 2500) := ⟨bv2, _, f, g, hC3, hM3, ⟨ho3, hod3⟩, hbv2, by have := q3.1; omega, hX.mono (by omega) hB⟩
  refine AF.icmp_eq 2880 dL_law_1104 (by decide) (fun h1 => ?_) (fun h1 => ?_)
  · exact next F _ _ _ _ hLI
  · exact absurd rfl h1
set_option maxRecDepth 100000 in
set_option maxHeartbeats 2000000 in
theorem LC19_ok (hL : LI G c F X B) (ha : gN G ≤ c) (hs : SCR G b L xs) (hi : i + 4 < L) (hl : L ≤ 2560) (hB : B + 2500 ≤ 2 ^ 21) (l6 l7 l8 : Option Value) (next : ∀ F' X' l6 l7 l8, LI G c F' X' (B + 2500) → AF G mL_law 13 bc bs R F' 2880 [some (.ref b), some (.ref c), some (.ref (c + 131)), some (.ref (c + 140)), some (.ref (c + 141)), some (.int (nI i)), l6, l7, l8] []) : AF G mL_law 13 (bc + 50) (bs + 6964) R F 1109 [some (.ref b), some (.ref c), some (.ref (c + 131)), some (.ref (c + 140)), some (.ref (c + 141)), some (.int (nI i)), l6, l7, l8] [] := by
  obtain ⟨bv, th, f, g, hC, hM, ⟨ho, hod⟩, hbv, hz, hX⟩ := hL
  obtain ⟨hn, hf, ⟨c0, -⟩, -⟩ := id hC
  refine AF.less (d' := 13) (bc' := bc) (bs' := bs) ?_ (Nat.le_refl _) (by omega) (by omega)
  refine AF.aload_n dL_law_1109 rfl ?_
  refine AF.vw dL_law_1110 kv_L_228 (X8_wind_ok hC) c0 rfl rfl rfl (Nat.le_of_ble_eq_true rfl) (by decide) rfl (fun E F9 q => absurd rfl (rx_x q.1).1) (fun v F2 q => ?_)
  obtain ⟨q, bv2, hC2, x1, x2, x3⟩ := q
  obtain ⟨-, q⟩ := rx_n q
  cases q
  have hbv2 : bv2 = c + 42 ∨ c + 142 ≤ bv2 := by omega
  have hM2 := hM.kept (F' := F2) (fun q a b => x3 q (by omega) (by omega) (by omega))
  have ho2 := (x3 (c + 140) (by omega) (by omega) (by omega)).trans ho
  have hod2 := (x3 (c + 141) (by omega) (by omega) (by omega)).trans hod
  obtain ⟨g2, f9, A2, ⟨m0, -⟩, -⟩ := id hM2
  refine AF.aload_n dL_law_1113 rfl ?_
  refine AF.vw dL_law_1114 kv_L_231 (X9_wind_ok hM2 (by omega)) (by assumption) rfl rfl rfl (Nat.le_of_ble_eq_true rfl) (by decide) rfl (fun E F9 q => nomatch q.1) (fun v F q => ?_)
  obtain ⟨q, hM3, q3⟩ := q
  cases q
  have hC3 := hC2.kept (fun q a b => q3.2 q (by omega)) (q3.2 bv2 (by omega)) (Nat.le_of_eq q3.1.symm)
  have ho3 := (q3.2 (c + 140) (by omega)).trans ho2
  have hod3 := (q3.2 (c + 141) (by omega)).trans hod2
  have hLI : LI G c F _ (B + 2500) := ⟨bv2, _, f, g, hC3, hM3, ⟨ho3, hod3⟩, hbv2, by have := q3.1; omega, hX.mono (by omega) hB⟩
  refine AF.icmp_eq 2880 dL_law_1117 (by decide) (fun h1 => ?_) (fun h1 => ?_)
  · exact next F _ _ _ _ hLI
  · exact absurd rfl h1
set_option maxRecDepth 100000 in
set_option maxHeartbeats 2000000 in
theorem LC20_ok (hL : LI G c F X B) (ha : gN G ≤ c) (hs : SCR G b L xs) (hi : i + 4 < L) (hl : L ≤ 2560) (hB : B + 2500 ≤ 2 ^ 21) (l6 l7 l8 : Option Value) (next : ∀ F' X' l6 l7 l8, LI G c F' X' (B + 2500) → AF G mL_law 13 bc bs R F' 2880 [some (.ref b), some (.ref c), some (.ref (c + 131)), some (.ref (c + 140)), some (.ref (c + 141)), some (.int (nI i)), l6, l7, l8] []) : AF G mL_law 13 (bc + 50) (bs + 6964) R F 1122 [some (.ref b), some (.ref c), some (.ref (c + 131)), some (.ref (c + 140)), some (.ref (c + 141)), some (.int (nI i)), l6, l7, l8] [] := by
  obtain ⟨bv, th, f, g, hC, hM, ⟨ho, hod⟩, hbv, hz, hX⟩ := hL
  obtain ⟨hn, hf, ⟨c0, -⟩, -⟩ := id hC
  refine AF.less (d' := 13) (bc' := bc) (bs' := bs) ?_ (Nat.le_refl _) (by omega) (by omega)
  refine AF.aload_n dL_law_1122 rfl ?_
  refine AF.vw dL_law_1123 kv_L_232 (X8_demand_ok hC) c0 rfl rfl rfl (Nat.le_of_ble_eq_true rfl) (by decide) rfl (fun E F9 q => absurd rfl (rx_x q.1).1) (fun v F2 q => ?_)
  obtain ⟨q, bv2, hC2, x1, x2, x3⟩ := q
  obtain ⟨-, q⟩ := rx_n q
  cases q
  have hbv2 : bv2 = c + 42 ∨ c + 142 ≤ bv2 := by omega
  have hM2 := hM.kept (F' := F2) (fun q a b => x3 q (by omega) (by omega) (by omega))
  have ho2 := (x3 (c + 140) (by omega) (by omega) (by omega)).trans ho
  have hod2 := (x3 (c + 141) (by omega) (by omega) (by omega)).trans hod
  obtain ⟨g2, f9, A2, ⟨m0, -⟩, -⟩ := id hM2
  refine AF.aload_n dL_law_1126 rfl ?_
  refine AF.vw dL_law_1127 kv_L_235 (X9_demand_ok hM2 (by omega)) (by assumption) rfl rfl rfl (Nat.le_of_ble_eq_true rfl) (by decide) rfl (fun E F9 q => nomatch q.1) (fun v F q => ?_)
  obtain ⟨q, hM3, q3⟩ := q
  cases q
  have hC3 := hC2.kept (fun q a b => q3.2 q (by omega)) (q3.2 bv2 (by omega)) (Nat.le_of_eq q3.1.symm)
  have ho3 := (q3.2 (c + 140) (by omega)).trans ho2
  have hod3 := (q3.2 (c + 141) (by omega)).trans hod2
  have hLI : LI G c F _ (B + 2500) := ⟨bv2, _, f, g, hC3, hM3, ⟨ho3, hod3⟩, hbv2, by have := q3.1; omega, hX.mono (by omega) hB⟩
  refine AF.icmp_eq 2880 dL_law_1130 (by decide) (fun h1 => ?_) (fun h1 => ?_)
  · exact next F _ _ _ _ hLI
  · exact absurd rfl h1
set_option maxRecDepth 100000 in
set_option maxHeartbeats 2000000 in
theorem LC21_ok (hL : LI G c F X B) (ha : gN G ≤ c) (hs : SCR G b L xs) (hi : i + 4 < L) (hl : L ≤ 2560) (hB : B + 2500 ≤ 2 ^ 21) (l6 l7 l8 : Option Value) (next : ∀ F' X' l6 l7 l8, LI G c F' X' (B + 2500) → AF G mL_law 13 bc bs R F' 2880 [some (.ref b), some (.ref c), some (.ref (c + 131)), some (.ref (c + 140)), some (.ref (c + 141)), some (.int (nI i)), l6, l7, l8] []) : AF G mL_law 13 (bc + 50) (bs + 6964) R F 1135 [some (.ref b), some (.ref c), some (.ref (c + 131)), some (.ref (c + 140)), some (.ref (c + 141)), some (.int (nI i)), l6, l7, l8] [] := by
  obtain ⟨bv, th, f, g, hC, hM, ⟨ho, hod⟩, hbv, hz, hX⟩ := hL
  obtain ⟨hn, hf, ⟨c0, -⟩, -⟩ := id hC
  refine AF.less (d' := 13) (bc' := bc) (bs' := bs) ?_ (Nat.le_refl _) (by omega) (by omega)
  refine AF.aload_n dL_law_1135 rfl ?_
  refine AF.vw dL_law_1136 kv_L_236 (X8_supply_ok hC hX.1) c0 rfl rfl rfl (Nat.le_of_ble_eq_true rfl) (by decide) rfl (fun E F9 q => absurd rfl (rx_x q.1).1) (fun v F2 q => ?_)
  obtain ⟨q, bv2, hC2, x1, x2, x3⟩ := q
  obtain ⟨-, q⟩ := rx_n q
  cases q
  have hbv2 : bv2 = c + 42 ∨ c + 142 ≤ bv2 := by omega
  have hM2 := hM.kept (F' := F2) (fun q a b => x3 q (by omega) (by omega) (by omega))
  have ho2 := (x3 (c + 140) (by omega) (by omega) (by omega)).trans ho
  have hod2 := (x3 (c + 141) (by omega) (by omega) (by omega)).trans hod
  obtain ⟨g2, f9, A2, ⟨m0, -⟩, -⟩ := id hM2
  refine AF.aload_n dL_law_1139 rfl ?_
  refine AF.vw dL_law_1140 kv_L_239 (X9_supply_ok hM2 (by omega) hX.1) (by assumption) rfl rfl rfl (Nat.le_of_ble_eq_true rfl) (by decide) rfl (fun E F9 q => nomatch q.1) (fun v F q => ?_)
  obtain ⟨q, hM3, q3⟩ := q
  cases q
  have hC3 := hC2.kept (fun q a b => q3.2 q (by omega)) (q3.2 bv2 (by omega)) (Nat.le_of_eq q3.1.symm)
  have ho3 := (q3.2 (c + 140) (by omega)).trans ho2
  have hod3 := (q3.2 (c + 141) (by omega)).trans hod2
  have hLI : LI G c F _ (B + 2500) := ⟨bv2, _, f, g, hC3, hM3, ⟨ho3, hod3⟩, hbv2, by have := q3.1; omega, hX.mono (by omega) hB⟩
  refine AF.icmp_eq 2880 dL_law_1143 (by decide) (fun h1 => ?_) (fun h1 => ?_)
  · exact next F _ _ _ _ hLI
  · exact absurd rfl h1
set_option maxRecDepth 100000 in
set_option maxHeartbeats 2000000 in
theorem LC22_ok (hL : LI G c F X B) (ha : gN G ≤ c) (hs : SCR G b L xs) (hi : i + 4 < L) (hl : L ≤ 2560) (hB : B + 2500 ≤ 2 ^ 21) (l6 l7 l8 : Option Value) (next : ∀ F' X' l6 l7 l8, LI G c F' X' (B + 2500) → AF G mL_law 13 bc bs R F' 2880 [some (.ref b), some (.ref c), some (.ref (c + 131)), some (.ref (c + 140)), some (.ref (c + 141)), some (.int (nI i)), l6, l7, l8] []) : AF G mL_law 13 (bc + 50) (bs + 6964) R F 1148 [some (.ref b), some (.ref c), some (.ref (c + 131)), some (.ref (c + 140)), some (.ref (c + 141)), some (.int (nI i)), l6, l7, l8] [] := by
  obtain ⟨bv, th, f, g, hC, hM, ⟨ho, hod⟩, hbv, hz, hX⟩ := hL
  obtain ⟨hn, hf, ⟨c0, -⟩, -⟩ := id hC
  refine AF.less (d' := 13) (bc' := bc) (bs' := bs) ?_ (Nat.le_refl _) (by omega) (by omega)
  refine AF.aload_n dL_law_1148 rfl ?_
  refine AF.vw dL_law_1149 kv_L_240 (X8_pumped_ok hC) c0 rfl rfl rfl (Nat.le_of_ble_eq_true rfl) (by decide) rfl (fun E F9 q => absurd rfl (rx_x q.1).1) (fun v F2 q => ?_)
  obtain ⟨q, bv2, hC2, x1, x2, x3⟩ := q
  obtain ⟨-, q⟩ := rx_n q
  cases q
  have hbv2 : bv2 = c + 42 ∨ c + 142 ≤ bv2 := by omega
  have hM2 := hM.kept (F' := F2) (fun q a b => x3 q (by omega) (by omega) (by omega))
  have ho2 := (x3 (c + 140) (by omega) (by omega) (by omega)).trans ho
  have hod2 := (x3 (c + 141) (by omega) (by omega) (by omega)).trans hod
  obtain ⟨g2, f9, A2, ⟨m0, -⟩, -⟩ := id hM2
  refine AF.aload_n dL_law_1152 rfl ?_
  refine AF.vw dL_law_1153 kv_L_244 (X9_pumped_ok hM2 (by omega) hX.1) (by assumption) rfl rfl rfl (Nat.le_of_ble_eq_true rfl) (by decide) rfl (fun E F9 q => nomatch q.1) (fun v F q => ?_)
  obtain ⟨q, hM3, q3⟩ := q
  cases q
  have hC3 := hC2.kept (fun q a b => q3.2 q (by omega)) (q3.2 bv2 (by omega)) (Nat.le_of_eq q3.1.symm)
  have ho3 := (q3.2 (c + 140) (by omega)).trans ho2
  have hod3 := (q3.2 (c + 141) (by omega)).trans hod2
  have hLI : LI G c F _ (B + 2500) := ⟨bv2, _, f, g, hC3, hM3, ⟨ho3, hod3⟩, hbv2, by have := q3.1; omega, hX.mono (by omega) hB⟩
  refine AF.lcmp dL_law_1156 ?_
  rw [lcmp_self]
  refine AF.if_eq 2880 dL_law_1157 (by decide) (fun h1 => ?_) (fun h1 => ?_)
  · exact next F _ _ _ _ hLI
  · exact absurd rfl h1
set_option maxRecDepth 100000 in
set_option maxHeartbeats 2000000 in
theorem LC23_ok (hL : LI G c F X B) (ha : gN G ≤ c) (hs : SCR G b L xs) (hi : i + 4 < L) (hl : L ≤ 2560) (hB : B + 2500 ≤ 2 ^ 21) (l6 l7 l8 : Option Value) (next : ∀ F' X' l6 l7 l8, LI G c F' X' (B + 2500) → AF G mL_law 13 bc bs R F' 2880 [some (.ref b), some (.ref c), some (.ref (c + 131)), some (.ref (c + 140)), some (.ref (c + 141)), some (.int (nI i)), l6, l7, l8] []) : AF G mL_law 13 (bc + 50) (bs + 6964) R F 1162 [some (.ref b), some (.ref c), some (.ref (c + 131)), some (.ref (c + 140)), some (.ref (c + 141)), some (.int (nI i)), l6, l7, l8] [] := by
  obtain ⟨bv, th, f, g, hC, hM, ⟨ho, hod⟩, hbv, hz, hX⟩ := hL
  obtain ⟨hn, hf, ⟨c0, -⟩, -⟩ := id hC
  refine AF.less (d' := 13) (bc' := bc) (bs' := bs) ?_ (Nat.le_refl _) (by omega) (by omega)
  refine AF.aload_n dL_law_1162 rfl ?_
  refine AF.vw dL_law_1163 kv_L_245 (X8_shortage_ok hC) c0 rfl rfl rfl (Nat.le_of_ble_eq_true rfl) (by decide) rfl (fun E F9 q => absurd rfl (rx_x q.1).1) (fun v F2 q => ?_)
  obtain ⟨q, bv2, hC2, x1, x2, x3⟩ := q
  obtain ⟨-, q⟩ := rx_n q
  cases q
  have hbv2 : bv2 = c + 42 ∨ c + 142 ≤ bv2 := by omega
  have hM2 := hM.kept (F' := F2) (fun q a b => x3 q (by omega) (by omega) (by omega))
  have ho2 := (x3 (c + 140) (by omega) (by omega) (by omega)).trans ho
  have hod2 := (x3 (c + 141) (by omega) (by omega) (by omega)).trans hod
  obtain ⟨g2, f9, A2, ⟨m0, -⟩, -⟩ := id hM2
  refine AF.aload_n dL_law_1166 rfl ?_
  refine AF.vw dL_law_1167 kv_L_248 (X9_shortage_ok hM2 (by omega) hX.1) (by assumption) rfl rfl rfl (Nat.le_of_ble_eq_true rfl) (by decide) rfl (fun E F9 q => nomatch q.1) (fun v F q => ?_)
  obtain ⟨q, hM3, q3⟩ := q
  cases q
  have hC3 := hC2.kept (fun q a b => q3.2 q (by omega)) (q3.2 bv2 (by omega)) (Nat.le_of_eq q3.1.symm)
  have ho3 := (q3.2 (c + 140) (by omega)).trans ho2
  have hod3 := (q3.2 (c + 141) (by omega)).trans hod2
  have hLI : LI G c F _ (B + 2500) := ⟨bv2, _, f, g, hC3, hM3, ⟨ho3, hod3⟩, hbv2, by have := q3.1; omega, hX.mono (by omega) hB⟩
  refine AF.lcmp dL_law_1170 ?_
  rw [lcmp_self]
  refine AF.if_eq 2880 dL_law_1171 (by decide) (fun h1 => ?_) (fun h1 => ?_)
  · exact next F _ _ _ _ hLI
  · exact absurd rfl h1
set_option maxRecDepth 100000 in
set_option maxHeartbeats 2000000 in
theorem LC24_ok (hL : LI G c F X B) (ha : gN G ≤ c) (hs : SCR G b L xs) (hi : i + 4 < L) (hl : L ≤ 2560) (hB : B + 2500 ≤ 2 ^ 21) (l6 l7 l8 : Option Value) (next : ∀ F' X' l6 l7 l8, LI G c F' X' (B + 2500) → AF G mL_law 13 bc bs R F' 2880 [some (.ref b), some (.ref c), some (.ref (c + 131)), some (.ref (c + 140)), some (.ref (c + 141)), some (.int (nI i)), l6, l7, l8] []) : AF G mL_law 13 (bc + 50) (bs + 6964) R F 1176 [some (.ref b), some (.ref c), some (.ref (c + 131)), some (.ref (c + 140)), some (.ref (c + 141)), some (.int (nI i)), l6, l7, l8] [] := by
  obtain ⟨bv, th, f, g, hC, hM, ⟨ho, hod⟩, hbv, hz, hX⟩ := hL
  have hpr : (if X.sg.Fg.length < 5 then 0 else 1) ≤ 3 := by split <;> omega
  obtain ⟨hn, hf, ⟨c0, -⟩, -⟩ := id hC
  refine AF.less (d' := 13) (bc' := bc + 1) (bs' := bs + 6) ?_ (Nat.le_refl _) (by omega) (by omega)
  refine AF.aload_n dL_law_1176 rfl ?_
  refine AF.aload_n dL_law_1177 rfl ?_
  refine AF.callSX (bc := bc) (bs := bs) (mc' := 1) (ms' := 6) dL_law_1178 kx_L_249 (L_addFigure_ok (B := B) hC ha hX.1 ho (by omega) (by omega) (by omega) (by omega)) rfl rfl (Nat.le_of_ble_eq_true rfl) (by decide) rfl (fun E F9 q => nomatch q.1) (fun v F2 q => ?_)
  obtain ⟨q, bv2, hC2, ⟨x1, x2, x3⟩, f2, hr2, hz2⟩ := q
  cases q
  have hbv2 : bv2 = c + 42 ∨ c + 142 ≤ bv2 := by omega
  have hM2 := hM.kept (F' := F2) (fun q a b => x3 q (by omega) (by omega) (by omega) (by omega))
  have ho2 := hr2
  have hod2 := (x3 (c + 141) (by omega) (by omega) (by omega) (by omega)).trans hod
  obtain ⟨g2, f9, A2, ⟨m0, -⟩, -⟩ := id hM2
  refine AF.istore dL_law_1181 (by decide) ?_
  refine AF.aload_n dL_law_1183 rfl ?_
  refine AF.vw dL_law_1184 kv_L_251 (X9_addFigure_ok hM2 (by omega)) (by assumption) rfl rfl rfl (Nat.le_of_ble_eq_true rfl) (by decide) rfl (fun E F9 q => nomatch q.1) (fun v F q => ?_)
  obtain ⟨q, hM3, q3⟩ := q
  cases q
  have hC3 := hC2.kept (fun q a b => q3.2 q (by omega)) (q3.2 bv2 (by omega)) (Nat.le_of_eq q3.1.symm)
  have ho3 := (q3.2 (c + 140) (by omega)).trans ho2
  have hod3 := (q3.2 (c + 141) (by omega)).trans hod2
  clear m0
  obtain ⟨g3, f9, A3, ⟨m0, -⟩, -⟩ := id hM3
  have hLI : LI G c F (chX X (aFig X.sg) (if X.sg.Fg.length < 5 then 0 else 1)) (B + 2500) := ⟨bv2, _, f2, g, hC3, hM3, ⟨ho3, hod3⟩, hbv2, by have := q3.1; omega, XI.ch hX (fun q => (hX.1.fig (Decidable.byContradiction (fun z => by rw [if_neg z] at q; cases q))).mono (by omega) (by omega)) (by omega) hB⟩
  refine AF.istore dL_law_1187 (by decide) ?_
  refine AF.aload_n dL_law_1189 rfl ?_
  refine AF.v1 dL_law_1190 kv_L_163 ((X9_thrown_ok hM3)) (by assumption) rfl rfl rfl (Nat.le_of_ble_eq_true rfl) (by decide) rfl ?_
  refine AF.iload dL_law_1193 rfl ?_
  refine AF.icmp_eq 1200 dL_law_1195 (by decide) (fun h1 => ?_) (fun h1 => ?_)
  · refine AF.iload dL_law_1200 rfl ?_
    refine AF.if_ne 1217 dL_law_1202 (by decide) (fun h2 => ?_) (fun h2 => ?_)
    · refine AF.goto 2880 dL_law_1217 (by decide) ?_
      exact next F _ _ _ _ hLI
    · have h2 : nI (if X.sg.Fg.length < 5 then 0 else 1) = nI 0 := h2
      rw [nI_eq (by omega) (by omega)] at h2
      refine AF.aload_n dL_law_1205 rfl ?_
      refine AF.iconst (nI 0) dL_law_1206 (by decide) ?_
      refine AF.laload 0 dL_law_1207 ho3 rfl (by omega) (by decide) ?_
      rw [hz2 h2]
      refine AF.iload dL_law_1208 rfl ?_
      refine AF.i2l dL_law_1210 ?_
      rw [if_pos h2]
      refine AF.lcmp dL_law_1211 ?_
      rw [lcmp_self]
      refine AF.if_eq 1217 dL_law_1212 (by decide) (fun h3 => ?_) (fun h3 => ?_)
      · refine AF.goto 2880 dL_law_1217 (by decide) ?_
        exact next F _ _ _ _ hLI
      · exact absurd rfl h3
  · exact absurd rfl h1
set_option maxRecDepth 100000 in
set_option maxHeartbeats 2000000 in
theorem LC25_ok (hL : LI G c F X B) (ha : gN G ≤ c) (hs : SCR G b L xs) (hi : i + 4 < L) (hl : L ≤ 2560) (hB : B + 2500 ≤ 2 ^ 21) (l6 l7 l8 : Option Value) (next : ∀ F' X' l6 l7 l8, LI G c F' X' (B + 2500) → AF G mL_law 13 bc bs R F' 2880 [some (.ref b), some (.ref c), some (.ref (c + 131)), some (.ref (c + 140)), some (.ref (c + 141)), some (.int (nI i)), l6, l7, l8] []) : AF G mL_law 13 (bc + 50) (bs + 6964) R F 1220 [some (.ref b), some (.ref c), some (.ref (c + 131)), some (.ref (c + 140)), some (.ref (c + 141)), some (.int (nI i)), l6, l7, l8] [] := by
  obtain ⟨bv, th, f, g, hC, hM, ⟨ho, hod⟩, hbv, hz, hX⟩ := hL
  obtain ⟨x, ex⟩ : ∃ z, z = xs (i + 1) := ⟨_, rfl⟩
  have hpr : (if pDrF X.sg x = 4 then 2 else pDrF X.sg x) ≤ 3 := by have := pDrF_v (σ := X.sg) (x := x); split <;> omega
  obtain ⟨hn, hf, ⟨c0, -⟩, -⟩ := id hC
  refine AF.less (d' := 13) (bc' := bc + 1) (bs' := bs + 6) ?_ (Nat.le_refl _) (by omega) (by omega)
  refine AF.aload_n dL_law_1220 rfl ?_
  refine AF.aload_n dL_law_1221 rfl ?_
  refine AF.iload dL_law_1222 rfl ?_
  refine AF.iconst (nI 1) dL_law_1224 (by decide) ?_
  refine AF.iadd dL_law_1225 ?_
  rw [nI_add]
  refine AF.ialoadT (v := .int x) (i + 1) dL_law_1226 hs rfl (by omega) (by omega) (congrArg Value.int ex.symm) ?_
  refine AF.aload_n dL_law_1227 rfl ?_
  refine AF.callSX (bc := bc) (bs := bs) (mc' := 1) (ms' := 6) dL_law_1228 kx_L_252 (L_removeFigure_ok (B := B) hC x ha hX.1 ho (by omega) (by omega) (by omega) (by omega)) rfl rfl (Nat.le_of_ble_eq_true rfl) (by decide) rfl (fun E F9 q => nomatch q.1) (fun v F2 q => ?_)
  obtain ⟨q, bv2, hC2, ⟨x1, x2, x3⟩, f2, hr2, hz2⟩ := q
  cases q
  have hbv2 : bv2 = c + 42 ∨ c + 142 ≤ bv2 := by omega
  have hM2 := hM.kept (F' := F2) (fun q a b => x3 q (by omega) (by omega) (by omega) (by omega))
  have ho2 := hr2
  have hod2 := (x3 (c + 141) (by omega) (by omega) (by omega) (by omega)).trans hod
  obtain ⟨g2, f9, A2, ⟨m0, -⟩, -⟩ := id hM2
  refine AF.istore dL_law_1231 (by decide) ?_
  refine AF.aload_n dL_law_1233 rfl ?_
  refine AF.aload_n dL_law_1234 rfl ?_
  refine AF.iload dL_law_1235 rfl ?_
  refine AF.iconst (nI 1) dL_law_1237 (by decide) ?_
  refine AF.iadd dL_law_1238 ?_
  rw [nI_add]
  refine AF.ialoadT (v := .int x) (i + 1) dL_law_1239 hs rfl (by omega) (by omega) (congrArg Value.int ex.symm) ?_
  refine AF.vw dL_law_1240 kv_L_254 (X9_removeFigure_ok hM2 (by omega) hX.1 x) (by assumption) rfl rfl rfl (Nat.le_of_ble_eq_true rfl) (by decide) rfl (fun E F9 q => nomatch q.1) (fun v F q => ?_)
  obtain ⟨q, hM3, q3⟩ := q
  cases q
  have hC3 := hC2.kept (fun q a b => q3.2 q (by omega)) (q3.2 bv2 (by omega)) (Nat.le_of_eq q3.1.symm)
  have ho3 := (q3.2 (c + 140) (by omega)).trans ho2
  have hod3 := (q3.2 (c + 141) (by omega)).trans hod2
  clear m0
  obtain ⟨g3, f9, A3, ⟨m0, -⟩, -⟩ := id hM3
  have hLI : LI G c F (chX X (aRmF X.sg x) (if pDrF X.sg x = 4 then 2 else pDrF X.sg x)) (B + 2500) := ⟨bv2, _, f2, g, hC3, hM3, ⟨ho3, hod3⟩, hbv2, by have := q3.1; omega, XI.ch hX (fun q => ((hX.1.rmF (by by_cases z : pDrF X.sg x = 4; rw [if_pos z] at q; omega; rw [if_neg z] at q; exact q)).1).mono (by omega) (by omega)) (by omega) hB⟩
  refine AF.istore dL_law_1243 (by decide) ?_
  refine AF.aload_n dL_law_1245 rfl ?_
  refine AF.v1 dL_law_1246 kv_L_163 ((X9_thrown_ok hM3)) (by assumption) rfl rfl rfl (Nat.le_of_ble_eq_true rfl) (by decide) rfl ?_
  refine AF.iload dL_law_1249 rfl ?_
  refine AF.icmp_eq 1256 dL_law_1251 (by decide) (fun h1 => ?_) (fun h1 => ?_)
  · refine AF.iload dL_law_1256 rfl ?_
    refine AF.if_ne 1273 dL_law_1258 (by decide) (fun h2 => ?_) (fun h2 => ?_)
    · refine AF.goto 2880 dL_law_1273 (by decide) ?_
      exact next F _ _ _ _ hLI
    · have h2 : nI (if pDrF X.sg x = 4 then 2 else pDrF X.sg x) = nI 0 := h2
      rw [nI_eq (by omega) (by omega)] at h2
      refine AF.aload_n dL_law_1261 rfl ?_
      refine AF.iconst (nI 0) dL_law_1262 (by decide) ?_
      refine AF.laload 0 dL_law_1263 ho3 rfl (by omega) (by decide) ?_
      rw [hz2 h2]
      refine AF.iload dL_law_1264 rfl ?_
      refine AF.i2l dL_law_1266 ?_
      rw [if_pos h2]
      refine AF.lcmp dL_law_1267 ?_
      rw [lcmp_self]
      refine AF.if_eq 1273 dL_law_1268 (by decide) (fun h3 => ?_) (fun h3 => ?_)
      · refine AF.goto 2880 dL_law_1273 (by decide) ?_
        exact next F _ _ _ _ hLI
      · exact absurd rfl h3
  · exact absurd rfl h1
set_option maxRecDepth 100000 in
set_option maxHeartbeats 2000000 in
theorem LC26_ok (hL : LI G c F X B) (ha : gN G ≤ c) (hs : SCR G b L xs) (hi : i + 4 < L) (hl : L ≤ 2560) (hB : B + 2500 ≤ 2 ^ 21) (l6 l7 l8 : Option Value) (next : ∀ F' X' l6 l7 l8, LI G c F' X' (B + 2500) → AF G mL_law 13 bc bs R F' 2880 [some (.ref b), some (.ref c), some (.ref (c + 131)), some (.ref (c + 140)), some (.ref (c + 141)), some (.int (nI i)), l6, l7, l8] []) : AF G mL_law 13 (bc + 50) (bs + 6964) R F 1276 [some (.ref b), some (.ref c), some (.ref (c + 131)), some (.ref (c + 140)), some (.ref (c + 141)), some (.int (nI i)), l6, l7, l8] [] := by
  obtain ⟨bv, th, f, g, hC, hM, ⟨ho, hod⟩, hbv, hz, hX⟩ := hL
  obtain ⟨x, ex⟩ : ∃ z, z = xs (i + 1) := ⟨_, rfl⟩
  obtain ⟨y, ey⟩ : ∃ z, z = xs (i + 2) := ⟨_, rfl⟩
  obtain ⟨z, ez⟩ : ∃ z, z = xs (i + 3) := ⟨_, rfl⟩
  obtain ⟨u, eu⟩ : ∃ z, z = xs (i + 4) := ⟨_, rfl⟩
  have hpr : (if pStp X.sg x y z u = 4 then 3 else pStp X.sg x y z u) ≤ 3 := by have := pStp_v (σ := X.sg) (x := x) (y := y) (z := z) (u := u); split <;> omega
  obtain ⟨hn, hf, ⟨c0, -⟩, -⟩ := id hC
  refine AF.less (d' := 13) (bc' := bc + 1) (bs' := bs + 6) ?_ (Nat.le_refl _) (by omega) (by omega)
  refine AF.aload_n dL_law_1276 rfl ?_
  refine AF.aload_n dL_law_1277 rfl ?_
  refine AF.iload dL_law_1278 rfl ?_
  refine AF.iconst (nI 1) dL_law_1280 (by decide) ?_
  refine AF.iadd dL_law_1281 ?_
  rw [nI_add]
  refine AF.ialoadT (v := .int x) (i + 1) dL_law_1282 hs rfl (by omega) (by omega) (congrArg Value.int ex.symm) ?_
  refine AF.aload_n dL_law_1283 rfl ?_
  refine AF.iload dL_law_1284 rfl ?_
  refine AF.iconst (nI 2) dL_law_1286 (by decide) ?_
  refine AF.iadd dL_law_1287 ?_
  rw [nI_add]
  refine AF.ialoadT (v := .int y) (i + 2) dL_law_1288 hs rfl (by omega) (by omega) (congrArg Value.int ey.symm) ?_
  refine AF.aload_n dL_law_1289 rfl ?_
  refine AF.iload dL_law_1290 rfl ?_
  refine AF.iconst (nI 3) dL_law_1292 (by decide) ?_
  refine AF.iadd dL_law_1293 ?_
  rw [nI_add]
  refine AF.ialoadT (v := .int z) (i + 3) dL_law_1294 hs rfl (by omega) (by omega) (congrArg Value.int ez.symm) ?_
  refine AF.aload_n dL_law_1295 rfl ?_
  refine AF.iload dL_law_1296 rfl ?_
  refine AF.iconst (nI 4) dL_law_1298 (by decide) ?_
  refine AF.iadd dL_law_1299 ?_
  rw [nI_add]
  refine AF.ialoadT (v := .int u) (i + 4) dL_law_1300 hs rfl (by omega) (by omega) (congrArg Value.int eu.symm) ?_
  refine AF.aload_n dL_law_1301 rfl ?_
  refine AF.callSX (bc := bc) (bs := bs) (mc' := 1) (ms' := 6) dL_law_1302 kx_L_255 (L_addStep_ok (B := B) hC x y z u ha hX.1 ho (by omega) (by omega) (by omega) (by omega)) rfl rfl (Nat.le_of_ble_eq_true rfl) (by decide) rfl (fun E F9 q => nomatch q.1) (fun v F2 q => ?_)
  obtain ⟨q, bv2, hC2, ⟨x1, x2, x3⟩, f2, hr2, hz2⟩ := q
  cases q
  have hbv2 : bv2 = c + 42 ∨ c + 142 ≤ bv2 := by omega
  have hM2 := hM.kept (F' := F2) (fun q a b => x3 q (by omega) (by omega) (by omega) (by omega))
  have ho2 := hr2
  have hod2 := (x3 (c + 141) (by omega) (by omega) (by omega) (by omega)).trans hod
  obtain ⟨g2, f9, A2, ⟨m0, -⟩, -⟩ := id hM2
  refine AF.istore dL_law_1305 (by decide) ?_
  refine AF.aload_n dL_law_1307 rfl ?_
  refine AF.aload_n dL_law_1308 rfl ?_
  refine AF.iload dL_law_1309 rfl ?_
  refine AF.iconst (nI 1) dL_law_1311 (by decide) ?_
  refine AF.iadd dL_law_1312 ?_
  rw [nI_add]
  refine AF.ialoadT (v := .int x) (i + 1) dL_law_1313 hs rfl (by omega) (by omega) (congrArg Value.int ex.symm) ?_
  refine AF.aload_n dL_law_1314 rfl ?_
  refine AF.iload dL_law_1315 rfl ?_
  refine AF.iconst (nI 2) dL_law_1317 (by decide) ?_
  refine AF.iadd dL_law_1318 ?_
  rw [nI_add]
  refine AF.ialoadT (v := .int y) (i + 2) dL_law_1319 hs rfl (by omega) (by omega) (congrArg Value.int ey.symm) ?_
  refine AF.aload_n dL_law_1320 rfl ?_
  refine AF.iload dL_law_1321 rfl ?_
  refine AF.iconst (nI 3) dL_law_1323 (by decide) ?_
  refine AF.iadd dL_law_1324 ?_
  rw [nI_add]
  refine AF.ialoadT (v := .int z) (i + 3) dL_law_1325 hs rfl (by omega) (by omega) (congrArg Value.int ez.symm) ?_
  refine AF.aload_n dL_law_1326 rfl ?_
  refine AF.iload dL_law_1327 rfl ?_
  refine AF.iconst (nI 4) dL_law_1329 (by decide) ?_
  refine AF.iadd dL_law_1330 ?_
  rw [nI_add]
  refine AF.ialoadT (v := .int u) (i + 4) dL_law_1331 hs rfl (by omega) (by omega) (congrArg Value.int eu.symm) ?_
  refine AF.vw dL_law_1332 kv_L_258 (X9_addStep_ok hM2 (by omega) x y z u) (by assumption) rfl rfl rfl (Nat.le_of_ble_eq_true rfl) (by decide) rfl (fun E F9 q => nomatch q.1) (fun v F q => ?_)
  obtain ⟨q, hM3, q3⟩ := q
  cases q
  have hC3 := hC2.kept (fun q a b => q3.2 q (by omega)) (q3.2 bv2 (by omega)) (Nat.le_of_eq q3.1.symm)
  have ho3 := (q3.2 (c + 140) (by omega)).trans ho2
  have hod3 := (q3.2 (c + 141) (by omega)).trans hod2
  clear m0
  obtain ⟨g3, f9, A3, ⟨m0, -⟩, -⟩ := id hM3
  have hLI : LI G c F (chX X (aStp X.sg x y z u) (if pStp X.sg x y z u = 4 then 3 else pStp X.sg x y z u)) (B + 2500) := ⟨bv2, _, f2, g, hC3, hM3, ⟨ho3, hod3⟩, hbv2, by have := q3.1; omega, XI.ch hX (fun q => ((hX.1.stp (by by_cases w : pStp X.sg x y z u = 4; rw [if_pos w] at q; omega; rw [if_neg w] at q; exact q)).1).mono (by omega) (by omega)) (by omega) hB⟩
  refine AF.istore dL_law_1335 (by decide) ?_
  refine AF.aload_n dL_law_1337 rfl ?_
  refine AF.v1 dL_law_1338 kv_L_163 ((X9_thrown_ok hM3)) (by assumption) rfl rfl rfl (Nat.le_of_ble_eq_true rfl) (by decide) rfl ?_
  refine AF.iload dL_law_1341 rfl ?_
  refine AF.icmp_eq 1348 dL_law_1343 (by decide) (fun h1 => ?_) (fun h1 => ?_)
  · refine AF.iload dL_law_1348 rfl ?_
    refine AF.if_ne 1365 dL_law_1350 (by decide) (fun h2 => ?_) (fun h2 => ?_)
    · refine AF.goto 2880 dL_law_1365 (by decide) ?_
      exact next F _ _ _ _ hLI
    · have h2 : nI (if pStp X.sg x y z u = 4 then 3 else pStp X.sg x y z u) = nI 0 := h2
      rw [nI_eq (by omega) (by omega)] at h2
      refine AF.aload_n dL_law_1353 rfl ?_
      refine AF.iconst (nI 0) dL_law_1354 (by decide) ?_
      refine AF.laload 0 dL_law_1355 ho3 rfl (by omega) (by decide) ?_
      rw [hz2 h2]
      refine AF.iload dL_law_1356 rfl ?_
      refine AF.i2l dL_law_1358 ?_
      rw [if_pos h2]
      refine AF.lcmp dL_law_1359 ?_
      rw [lcmp_self]
      refine AF.if_eq 1365 dL_law_1360 (by decide) (fun h3 => ?_) (fun h3 => ?_)
      · refine AF.goto 2880 dL_law_1365 (by decide) ?_
        exact next F _ _ _ _ hLI
      · exact absurd rfl h3
  · exact absurd rfl h1
set_option maxRecDepth 100000 in
set_option maxHeartbeats 2000000 in
theorem LC27_ok (hL : LI G c F X B) (ha : gN G ≤ c) (hs : SCR G b L xs) (hi : i + 4 < L) (hl : L ≤ 2560) (hB : B + 2500 ≤ 2 ^ 21) (l6 l7 l8 : Option Value) (next : ∀ F' X' l6 l7 l8, LI G c F' X' (B + 2500) → AF G mL_law 13 bc bs R F' 2880 [some (.ref b), some (.ref c), some (.ref (c + 131)), some (.ref (c + 140)), some (.ref (c + 141)), some (.int (nI i)), l6, l7, l8] []) : AF G mL_law 13 (bc + 50) (bs + 6964) R F 1368 [some (.ref b), some (.ref c), some (.ref (c + 131)), some (.ref (c + 140)), some (.ref (c + 141)), some (.int (nI i)), l6, l7, l8] [] := by
  obtain ⟨bv, th, f, g, hC, hM, ⟨ho, hod⟩, hbv, hz, hX⟩ := hL
  obtain ⟨x, ex⟩ : ∃ z, z = xs (i + 1) := ⟨_, rfl⟩
  obtain ⟨y, ey⟩ : ∃ z, z = xs (i + 2) := ⟨_, rfl⟩
  have hpr : (if hsB X.sg.Fg x y = true then 0 else 1) ≤ 3 := by split <;> omega
  obtain ⟨hn, hf, ⟨c0, -⟩, -⟩ := id hC
  refine AF.less (d' := 13) (bc' := bc + 1) (bs' := bs + 6) ?_ (Nat.le_refl _) (by omega) (by omega)
  refine AF.aload_n dL_law_1368 rfl ?_
  refine AF.aload_n dL_law_1369 rfl ?_
  refine AF.iload dL_law_1370 rfl ?_
  refine AF.iconst (nI 1) dL_law_1372 (by decide) ?_
  refine AF.iadd dL_law_1373 ?_
  rw [nI_add]
  refine AF.ialoadT (v := .int x) (i + 1) dL_law_1374 hs rfl (by omega) (by omega) (congrArg Value.int ex.symm) ?_
  refine AF.aload_n dL_law_1375 rfl ?_
  refine AF.iload dL_law_1376 rfl ?_
  refine AF.iconst (nI 2) dL_law_1378 (by decide) ?_
  refine AF.iadd dL_law_1379 ?_
  rw [nI_add]
  refine AF.ialoadT (v := .int y) (i + 2) dL_law_1380 hs rfl (by omega) (by omega) (congrArg Value.int ey.symm) ?_
  refine AF.aload_n dL_law_1381 rfl ?_
  refine AF.callSX (bc := bc) (bs := bs) (mc' := 1) (ms' := 6) dL_law_1382 kx_L_259 (L_removeStep_ok (B := B) hC x y ha hX.1 ho (by omega) (by omega) (by omega) (by omega)) rfl rfl (Nat.le_of_ble_eq_true rfl) (by decide) rfl (fun E F9 q => nomatch q.1) (fun v F2 q => ?_)
  obtain ⟨q, bv2, hC2, ⟨x1, x2, x3⟩, f2, hr2, hz2⟩ := q
  cases q
  have hbv2 : bv2 = c + 42 ∨ c + 142 ≤ bv2 := by omega
  have hM2 := hM.kept (F' := F2) (fun q a b => x3 q (by omega) (by omega) (by omega) (by omega))
  have ho2 := hr2
  have hod2 := (x3 (c + 141) (by omega) (by omega) (by omega) (by omega)).trans hod
  obtain ⟨g2, f9, A2, ⟨m0, -⟩, -⟩ := id hM2
  refine AF.istore dL_law_1385 (by decide) ?_
  refine AF.aload_n dL_law_1387 rfl ?_
  refine AF.aload_n dL_law_1388 rfl ?_
  refine AF.iload dL_law_1389 rfl ?_
  refine AF.iconst (nI 1) dL_law_1391 (by decide) ?_
  refine AF.iadd dL_law_1392 ?_
  rw [nI_add]
  refine AF.ialoadT (v := .int x) (i + 1) dL_law_1393 hs rfl (by omega) (by omega) (congrArg Value.int ex.symm) ?_
  refine AF.aload_n dL_law_1394 rfl ?_
  refine AF.iload dL_law_1395 rfl ?_
  refine AF.iconst (nI 2) dL_law_1397 (by decide) ?_
  refine AF.iadd dL_law_1398 ?_
  rw [nI_add]
  refine AF.ialoadT (v := .int y) (i + 2) dL_law_1399 hs rfl (by omega) (by omega) (congrArg Value.int ey.symm) ?_
  refine AF.vw dL_law_1400 kv_L_261 (X9_removeStep_ok hM2 (by omega) x y) (by assumption) rfl rfl rfl (Nat.le_of_ble_eq_true rfl) (by decide) rfl (fun E F9 q => nomatch q.1) (fun v F q => ?_)
  obtain ⟨q, hM3, q3⟩ := q
  cases q
  have hC3 := hC2.kept (fun q a b => q3.2 q (by omega)) (q3.2 bv2 (by omega)) (Nat.le_of_eq q3.1.symm)
  have ho3 := (q3.2 (c + 140) (by omega)).trans ho2
  have hod3 := (q3.2 (c + 141) (by omega)).trans hod2
  clear m0
  obtain ⟨g3, f9, A3, ⟨m0, -⟩, -⟩ := id hM3
  have hLI : LI G c F (chX X (aRmS X.sg x y) (if hsB X.sg.Fg x y = true then 0 else 1)) (B + 2500) := ⟨bv2, _, f2, g, hC3, hM3, ⟨ho3, hod3⟩, hbv2, by have := q3.1; omega, XI.ch hX (fun q => ((hX.1.rmS (Decidable.byContradiction (fun z => by rw [if_neg z] at q; cases q))).1).mono (by omega) (by omega)) (by omega) hB⟩
  refine AF.istore dL_law_1403 (by decide) ?_
  refine AF.aload_n dL_law_1405 rfl ?_
  refine AF.v1 dL_law_1406 kv_L_163 ((X9_thrown_ok hM3)) (by assumption) rfl rfl rfl (Nat.le_of_ble_eq_true rfl) (by decide) rfl ?_
  refine AF.iload dL_law_1409 rfl ?_
  refine AF.icmp_eq 1416 dL_law_1411 (by decide) (fun h1 => ?_) (fun h1 => ?_)
  · refine AF.iload dL_law_1416 rfl ?_
    refine AF.if_ne 1433 dL_law_1418 (by decide) (fun h2 => ?_) (fun h2 => ?_)
    · refine AF.goto 2880 dL_law_1433 (by decide) ?_
      exact next F _ _ _ _ hLI
    · have h2 : nI (if hsB X.sg.Fg x y = true then 0 else 1) = nI 0 := h2
      rw [nI_eq (by omega) (by omega)] at h2
      refine AF.aload_n dL_law_1421 rfl ?_
      refine AF.iconst (nI 0) dL_law_1422 (by decide) ?_
      refine AF.laload 0 dL_law_1423 ho3 rfl (by omega) (by decide) ?_
      rw [hz2 h2]
      refine AF.iload dL_law_1424 rfl ?_
      refine AF.i2l dL_law_1426 ?_
      rw [if_pos h2]
      refine AF.lcmp dL_law_1427 ?_
      rw [lcmp_self]
      refine AF.if_eq 1433 dL_law_1428 (by decide) (fun h3 => ?_) (fun h3 => ?_)
      · refine AF.goto 2880 dL_law_1433 (by decide) ?_
        exact next F _ _ _ _ hLI
      · exact absurd rfl h3
  · exact absurd rfl h1
set_option maxRecDepth 100000 in
set_option maxHeartbeats 2000000 in
theorem LC28_ok (hL : LI G c F X B) (ha : gN G ≤ c) (hs : SCR G b L xs) (hi : i + 4 < L) (hl : L ≤ 2560) (hB : B + 2500 ≤ 2 ^ 21) (l6 l7 l8 : Option Value) (next : ∀ F' X' l6 l7 l8, LI G c F' X' (B + 2500) → AF G mL_law 13 bc bs R F' 2880 [some (.ref b), some (.ref c), some (.ref (c + 131)), some (.ref (c + 140)), some (.ref (c + 141)), some (.int (nI i)), l6, l7, l8] []) : AF G mL_law 13 (bc + 50) (bs + 6964) R F 1436 [some (.ref b), some (.ref c), some (.ref (c + 131)), some (.ref (c + 140)), some (.ref (c + 141)), some (.int (nI i)), l6, l7, l8] [] := by
  obtain ⟨bv, th, f, g, hC, hM, ⟨ho, hod⟩, hbv, hz, hX⟩ := hL
  obtain ⟨hn, hf, ⟨c0, -⟩, -⟩ := id hC
  refine AF.less (d' := 13) (bc' := bc) (bs' := bs) ?_ (Nat.le_refl _) (by omega) (by omega)
  refine AF.aload_n dL_law_1436 rfl ?_
  refine AF.vw dL_law_1437 kv_L_262 (X8_figureCount_ok hC) c0 rfl rfl rfl (Nat.le_of_ble_eq_true rfl) (by decide) rfl (fun E F9 q => absurd rfl (rx_x q.1).1) (fun v F2 q => ?_)
  obtain ⟨q, bv2, hC2, x1, x2, x3⟩ := q
  obtain ⟨-, q⟩ := rx_n q
  cases q
  have hbv2 : bv2 = c + 42 ∨ c + 142 ≤ bv2 := by omega
  have hM2 := hM.kept (F' := F2) (fun q a b => x3 q (by omega) (by omega) (by omega))
  have ho2 := (x3 (c + 140) (by omega) (by omega) (by omega)).trans ho
  have hod2 := (x3 (c + 141) (by omega) (by omega) (by omega)).trans hod
  obtain ⟨g2, f9, A2, ⟨m0, -⟩, -⟩ := id hM2
  refine AF.aload_n dL_law_1440 rfl ?_
  refine AF.vw dL_law_1441 kv_L_265 (X9_figureCount_ok hM2 (by omega)) (by assumption) rfl rfl rfl (Nat.le_of_ble_eq_true rfl) (by decide) rfl (fun E F9 q => nomatch q.1) (fun v F q => ?_)
  obtain ⟨q, hM3, q3⟩ := q
  cases q
  have hC3 := hC2.kept (fun q a b => q3.2 q (by omega)) (q3.2 bv2 (by omega)) (Nat.le_of_eq q3.1.symm)
  have ho3 := (q3.2 (c + 140) (by omega)).trans ho2
  have hod3 := (q3.2 (c + 141) (by omega)).trans hod2
  have hLI : LI G c F _ (B + 2500) := ⟨bv2, _, f, g, hC3, hM3, ⟨ho3, hod3⟩, hbv2, by have := q3.1; omega, hX.mono (by omega) hB⟩
  refine AF.icmp_eq 2880 dL_law_1444 (by decide) (fun h1 => ?_) (fun h1 => ?_)
  · exact next F _ _ _ _ hLI
  · exact absurd rfl h1
set_option maxRecDepth 100000 in
set_option maxHeartbeats 2000000 in
theorem LC29_ok (hL : LI G c F X B) (ha : gN G ≤ c) (hs : SCR G b L xs) (hi : i + 4 < L) (hl : L ≤ 2560) (hB : B + 2500 ≤ 2 ^ 21) (l6 l7 l8 : Option Value) (next : ∀ F' X' l6 l7 l8, LI G c F' X' (B + 2500) → AF G mL_law 13 bc bs R F' 2880 [some (.ref b), some (.ref c), some (.ref (c + 131)), some (.ref (c + 140)), some (.ref (c + 141)), some (.int (nI i)), l6, l7, l8] []) : AF G mL_law 13 (bc + 50) (bs + 6964) R F 1449 [some (.ref b), some (.ref c), some (.ref (c + 131)), some (.ref (c + 140)), some (.ref (c + 141)), some (.int (nI i)), l6, l7, l8] [] := by
  obtain ⟨bv, th, f, g, hC, hM, ⟨ho, hod⟩, hbv, hz, hX⟩ := hL
  obtain ⟨x, ex⟩ : ∃ z, z = xs (i + 1) := ⟨_, rfl⟩
  have hpr : (if hasB X.sg.Fg.length x = true then 0 else 1) ≤ 3 := by split <;> omega
  obtain ⟨hn, hf, ⟨c0, -⟩, -⟩ := id hC
  refine AF.less (d' := 13) (bc' := bc + 1) (bs' := bs + 6) ?_ (Nat.le_refl _) (by omega) (by omega)
  refine AF.aload_n dL_law_1449 rfl ?_
  refine AF.aload_n dL_law_1450 rfl ?_
  refine AF.iload dL_law_1451 rfl ?_
  refine AF.iconst (nI 1) dL_law_1453 (by decide) ?_
  refine AF.iadd dL_law_1454 ?_
  rw [nI_add]
  refine AF.ialoadT (v := .int x) (i + 1) dL_law_1455 hs rfl (by omega) (by omega) (congrArg Value.int ex.symm) ?_
  refine AF.aload_n dL_law_1456 rfl ?_
  refine AF.callSX (bc := bc) (bs := bs) (mc' := 1) (ms' := 6) dL_law_1457 kx_L_266 (L_stepCount_ok (B := B) hC x ho (by omega) (by omega) (by omega) (by omega)) rfl rfl (Nat.le_of_ble_eq_true rfl) (by decide) rfl (fun E F9 q => nomatch q.1) (fun v F2 q => ?_)
  obtain ⟨q, bv2, hC2, ⟨x1, x2, x3⟩, f2, hr2, hz2⟩ := q
  cases q
  have hbv2 : bv2 = c + 42 ∨ c + 142 ≤ bv2 := by omega
  have hM2 := hM.kept (F' := F2) (fun q a b => x3 q (by omega) (by omega) (by omega) (by omega))
  have ho2 := hr2
  have hod2 := (x3 (c + 141) (by omega) (by omega) (by omega) (by omega)).trans hod
  obtain ⟨g2, f9, A2, ⟨m0, -⟩, -⟩ := id hM2
  refine AF.istore dL_law_1460 (by decide) ?_
  refine AF.aload_n dL_law_1462 rfl ?_
  refine AF.aload_n dL_law_1463 rfl ?_
  refine AF.iload dL_law_1464 rfl ?_
  refine AF.iconst (nI 1) dL_law_1466 (by decide) ?_
  refine AF.iadd dL_law_1467 ?_
  rw [nI_add]
  refine AF.ialoadT (v := .int x) (i + 1) dL_law_1468 hs rfl (by omega) (by omega) (congrArg Value.int ex.symm) ?_
  refine AF.vw dL_law_1469 kv_L_268 (X9_stepCount_ok hM2 (by omega) x) (by assumption) rfl rfl rfl (Nat.le_of_ble_eq_true rfl) (by decide) rfl (fun E F9 q => nomatch q.1) (fun v F q => ?_)
  obtain ⟨q, hM3, q3⟩ := q
  cases q
  have hC3 := hC2.kept (fun q a b => q3.2 q (by omega)) (q3.2 bv2 (by omega)) (Nat.le_of_eq q3.1.symm)
  have ho3 := (q3.2 (c + 140) (by omega)).trans ho2
  have hod3 := (q3.2 (c + 141) (by omega)).trans hod2
  clear m0
  obtain ⟨g3, f9, A3, ⟨m0, -⟩, -⟩ := id hM3
  have hLI : LI G c F X (B + 2500) := ⟨bv2, _, f2, g, hC3, hM3, ⟨ho3, hod3⟩, hbv2, by have := q3.1; omega, hX.mono (by omega) hB⟩
  refine AF.istore dL_law_1472 (by decide) ?_
  refine AF.aload_n dL_law_1474 rfl ?_
  refine AF.v1 dL_law_1475 kv_L_163 ((X9_thrown_ok hM3)) (by assumption) rfl rfl rfl (Nat.le_of_ble_eq_true rfl) (by decide) rfl ?_
  refine AF.iload dL_law_1478 rfl ?_
  refine AF.icmp_eq 1485 dL_law_1480 (by decide) (fun h1 => ?_) (fun h1 => ?_)
  · refine AF.iload dL_law_1485 rfl ?_
    refine AF.if_ne 1502 dL_law_1487 (by decide) (fun h2 => ?_) (fun h2 => ?_)
    · refine AF.goto 2880 dL_law_1502 (by decide) ?_
      exact next F _ _ _ _ hLI
    · have h2 : nI (if hasB X.sg.Fg.length x = true then 0 else 1) = nI 0 := h2
      rw [nI_eq (by omega) (by omega)] at h2
      refine AF.aload_n dL_law_1490 rfl ?_
      refine AF.iconst (nI 0) dL_law_1491 (by decide) ?_
      refine AF.laload 0 dL_law_1492 ho3 rfl (by omega) (by decide) ?_
      rw [hz2 h2]
      refine AF.iload dL_law_1493 rfl ?_
      refine AF.i2l dL_law_1495 ?_
      rw [if_pos h2]
      refine AF.lcmp dL_law_1496 ?_
      rw [lcmp_self]
      refine AF.if_eq 1502 dL_law_1497 (by decide) (fun h3 => ?_) (fun h3 => ?_)
      · refine AF.goto 2880 dL_law_1502 (by decide) ?_
        exact next F _ _ _ _ hLI
      · exact absurd rfl h3
  · exact absurd rfl h1
end

