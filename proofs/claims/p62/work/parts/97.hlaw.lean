/-! The law: its loop, its beginning. -/
section
variable {G : GA} {c b L : Nat} {xs : Nat → Int32}
set_option maxRecDepth 100000 in
set_option maxHeartbeats 8000000 in
theorem W_190 (ha : gN G ≤ c) (hs : SCR G b L xs) (hL : L ≤ 260) {n r9 : Nat} (hn : n < 58) (ih : ∀ F bv Y hist f m bc bs l6 l7 l8 l9 l10 l11 l12 l13 l14 l15 l16 l17 l18 l19 l20 l21 l22 l23 l24 l25 l26, m ≤ n + 1 → 2535 * r9 + 5789 ≤ bc → 82834 * r9 + 334614 ≤ bs → LH G c Y (2500 * (n + 1)) bv F hist f m → AF G mL_law 15 bc bs LQ F 28 [some (.ref b), some (.ref c), some (.ref (c + 131)), some (.int (nI m)), some (.int (nI (5 * (n + 1)))), some (.int (nI (n + 1))), l6, l7, l8, l9, l10, l11, l12, l13, l14, l15, l16, l17, l18, l19, l20, l21, l22, l23, l24, l25, l26] []) {Y : YS} {hist : Nat → Sg} {f : Nat → Int64} {m bv : Nat} {F : AH} (hm : m ≤ n) (hH : HI hist f m Y) (hW : WI Y.1) (hf : F.2 (c + 131) = some (.inl (gC G 1, 80, .inr (.inl f)))) (h1 : c + 131 < F.1) (h3 : ¬ c + 131 = bv) (hB : 2500 * (n + 1) ≤ 2 ^ 20) (hK : LK G c Y (2500 * n) bv F) {kd be : Nat} (hbe : be < 6) (hkd : kd < 44) (l23 : Int32) (l24 l25 l26 : Option Value) : AF G mL_law 15 (2535 * r9 + 5789 + 1885) (82834 * r9 + 334614 + 45614) LQ F 190 [some (.ref b), some (.ref c), some (.ref (c + 131)), some (.int (nI m)), some (.int (nI (5 * n))), some (.int (nI n)), some (.long (sumV Y.1)), none, some (.int (nI Y.2.2.length)), some (.int (nI kd)), some (.int (nI be)), some (.int (nI (dem Y.1.J))), some (.int (nI (dem (nxN Y.1 be).J))), some (.int (nI (btq Y.1))), some (.int (nI Y.1.bt)), some (.int (nI Y.1.E.length)), some (.long (nL Y.1.pum + nL Y.1.sht)), none, some (.int (ovl Y.1 be)), some (.long (nL Y.1.sht)), none, some (.long (nL (sumN (fun i => dem (nxN Y.1 (i + 1)).J) be))), none, some (.int (l23)), l24, l25, l26] [] := by
  have hq := hK.q
  have hq2 := hq.nxN be (by omega)
  have hX : XF c bv bv F F := XF.rf
  refine AF.aload_n dL_law_190 rfl ?_
  refine AF.iload dL_law_191 rfl ?_
  refine AF.iload dL_law_193 rfl ?_
  refine AF.aload_n dL_law_195 rfl ?_
  refine AF.iload dL_law_196 rfl ?_
  refine AF.le (mc' := 32) (ms' := 1176) (bc := 2535 * r9 + 5789 + 1853) (bs := 82834 * r9 + 334614 + 44438) dL_law_198 kv_L_215 (L_does_ok hs hL (k := 5 * n) hK ha (by omega) hW (by omega) hkd hbe) hX rfl rfl (Nat.le_of_ble_eq_true rfl) (by decide) rfl (fun F2 bv2 v hP hX => ?_)
  obtain ⟨r, rfl, hP⟩ := hP
  have hf2 := (hX.at h1 (Nat.le_refl _) h3).trans hf
  have h12 := Nat.lt_of_lt_of_le h1 hX.1
  have h32 := hX.bq h1 h3
  refine AF.istore dL_law_201 (by decide) ?_
  rcases hP with ⟨hr, hk9, hK2⟩ | ⟨hr, σ, hw, q1, q2, hK2⟩
  · exact W_203 ha hs hL hn ih hm hH (Or.inl ⟨hr, hk9, rfl⟩) hW hf2 h12 h32 hB (hK2.mono (by omega) (by omega)) hbe hkd hq hq2 _ _ _
  · exact W_203 (Y' := (σ, Y.2.1, pushH Y.2.2 Y.1)) ha hs hL hn ih hm hH (Or.inr ⟨hr, σ, rfl, q1, q2⟩) hw hf2 h12 h32 hB (hK2.mono (by omega) (by omega)) hbe hkd hq hq2 _ _ _
set_option maxRecDepth 100000 in
set_option maxHeartbeats 8000000 in
theorem W_165 (ha : gN G ≤ c) (hs : SCR G b L xs) (hL : L ≤ 260) {n r9 : Nat} (hn : n < 58) (ih : ∀ F bv Y hist f m bc bs l6 l7 l8 l9 l10 l11 l12 l13 l14 l15 l16 l17 l18 l19 l20 l21 l22 l23 l24 l25 l26, m ≤ n + 1 → 2535 * r9 + 5789 ≤ bc → 82834 * r9 + 334614 ≤ bs → LH G c Y (2500 * (n + 1)) bv F hist f m → AF G mL_law 15 bc bs LQ F 28 [some (.ref b), some (.ref c), some (.ref (c + 131)), some (.int (nI m)), some (.int (nI (5 * (n + 1)))), some (.int (nI (n + 1))), l6, l7, l8, l9, l10, l11, l12, l13, l14, l15, l16, l17, l18, l19, l20, l21, l22, l23, l24, l25, l26] []) {Y : YS} {hist : Nat → Sg} {f : Nat → Int64} {m : Nat} (hm : m ≤ n) (hH : HI hist f m Y) (hW : WI Y.1) (hB : 2500 * (n + 1) ≤ 2 ^ 20) {kd be : Nat} (hbe : be < 6) (hkd : kd < 44) (l24 l25 l26 : Option Value) : ∀ (r i bc bs bv : Nat) (F : AH), i + r = be → 2535 * r9 + 5789 + 1885 + r ≤ bc → 82834 * r9 + 334614 + 45614 + 6 * r ≤ bs → LK G c Y (2500 * n) bv F → F.2 (c + 131) = some (.inl (gC G 1, 80, .inr (.inl f))) → c + 131 < F.1 → ¬ c + 131 = bv → AF G mL_law 15 bc bs LQ F 165 [some (.ref b), some (.ref c), some (.ref (c + 131)), some (.int (nI m)), some (.int (nI (5 * n))), some (.int (nI n)), some (.long (sumV Y.1)), none, some (.int (nI Y.2.2.length)), some (.int (nI kd)), some (.int (nI be)), some (.int (nI (dem Y.1.J))), some (.int (nI (dem (nxN Y.1 be).J))), some (.int (nI (btq Y.1))), some (.int (nI Y.1.bt)), some (.int (nI Y.1.E.length)), some (.long (nL Y.1.pum + nL Y.1.sht)), none, some (.int (ovl Y.1 be)), some (.long (nL Y.1.sht)), none, some (.long (nL (sumN (fun i => dem (nxN Y.1 (i + 1)).J) i))), none, some (.int (nI (i + 1))), l24, l25, l26] [] := by
  intro r
  induction r with
  | zero =>
    intro i bc bs bv F hi hb hs9 hK hf h1 h3
    have e9 : i = be := by omega
    subst e9
    refine AF.less (d' := 15) (bc' := 2535 * r9 + 5789 + 1885) (bs' := 82834 * r9 + 334614 + 45614) ?_ (Nat.le_refl _) (by omega) (by omega)
    refine AF.iload dL_law_165 rfl ?_
    refine AF.iload dL_law_167 rfl ?_
    refine AF.icmp_gt 190 dL_law_169 (by decide) (fun c1 => ?_) (fun c1 => ?_)
    · exact W_190 ha hs hL hn ih hm hH hW hf h1 h3 hB hK hbe hkd _ _ _ _
    · exact absurd (nI_lt (a := i) (b := i + 1) (by omega) (by omega)) c1
  | succ r ih2 =>
    intro i bc bs bv F hi hb hs9 hK hf h1 h3
    have hX : XF c bv bv F F := XF.rf
    have hd9 : dem (nxN Y.1 (i + 1)).J ≤ 100 := by
      have h := hK.q.nxN (i + 1) (by omega)
      exact dem_le h.1.1 h.2.2.1
    refine AF.less (d' := 15) (bc' := 2535 * r9 + 5789 + r + 1886) (bs' := 82834 * r9 + 334614 + 6 * r + 45620) ?_ (Nat.le_refl _) (by omega) (by omega)
    refine AF.iload dL_law_165 rfl ?_
    refine AF.iload dL_law_167 rfl ?_
    refine AF.icmp_gt 190 dL_law_169 (by decide) (fun c1 => ?_) (fun c1 => ?_)
    · rw [nI_ltI (by omega) (by omega)] at c1; omega
    · refine AF.lload dL_law_172 rfl ?_
      refine AF.aload_n dL_law_174 rfl ?_
      refine AF.iload dL_law_175 rfl ?_
      refine AF.lx (mc' := 1) (ms' := 6) (bc := 2535 * r9 + 5789 + r + 1885) (bs := 82834 * r9 + 334614 + 6 * r + 45614) dL_law_177 kx_L_195 (W_demandAfter hK ha (by omega) (n := i + 1) (by omega)) hX rfl rfl (Nat.le_of_ble_eq_true rfl) (by decide) rfl (fun F bv hK hX => ?_)
      refine AF.i2l dL_law_180 ?_
      refine AF.ladd dL_law_181 ?_
      rw [nL_add (by omega)]
      refine AF.lstore dL_law_182 (by decide) ?_
      refine AF.inc1 dL_law_184 rfl (by decide) ?_
      refine AF.goto 165 dL_law_187 (by decide) ?_
      exact ih2 (i + 1) _ _ bv F (by omega) (by omega) (by omega) hK ((hX.at h1 (Nat.le_refl _) h3).trans hf) (Nat.lt_of_lt_of_le h1 hX.1) (hX.bq h1 h3)
set_option maxRecDepth 100000 in
set_option maxHeartbeats 8000000 in
theorem W_153 (ha : gN G ≤ c) (hs : SCR G b L xs) (hL : L ≤ 260) {n r9 : Nat} (hn : n < 58) (ih : ∀ F bv Y hist f m bc bs l6 l7 l8 l9 l10 l11 l12 l13 l14 l15 l16 l17 l18 l19 l20 l21 l22 l23 l24 l25 l26, m ≤ n + 1 → 2535 * r9 + 5789 ≤ bc → 82834 * r9 + 334614 ≤ bs → LH G c Y (2500 * (n + 1)) bv F hist f m → AF G mL_law 15 bc bs LQ F 28 [some (.ref b), some (.ref c), some (.ref (c + 131)), some (.int (nI m)), some (.int (nI (5 * (n + 1)))), some (.int (nI (n + 1))), l6, l7, l8, l9, l10, l11, l12, l13, l14, l15, l16, l17, l18, l19, l20, l21, l22, l23, l24, l25, l26] []) {Y : YS} {hist : Nat → Sg} {f : Nat → Int64} {m bv : Nat} {F : AH} (hm : m ≤ n) (hH : HI hist f m Y) (hW : WI Y.1) (hf : F.2 (c + 131) = some (.inl (gC G 1, 80, .inr (.inl f)))) (h1 : c + 131 < F.1) (h3 : ¬ c + 131 = bv) (hB : 2500 * (n + 1) ≤ 2 ^ 20) (hK : LK G c Y (2500 * n) bv F) {kd be : Nat} (hbe : be < 6) (hkd : kd < 44) (l19 l20 l21 l22 l23 l24 l25 l26 : Option Value) : AF G mL_law 15 (2535 * r9 + 5789 + 1890) (82834 * r9 + 334614 + 45644) LQ F 153 [some (.ref b), some (.ref c), some (.ref (c + 131)), some (.int (nI m)), some (.int (nI (5 * n))), some (.int (nI n)), some (.long (sumV Y.1)), none, some (.int (nI Y.2.2.length)), some (.int (nI kd)), some (.int (nI be)), some (.int (nI (dem Y.1.J))), some (.int (nI (dem (nxN Y.1 be).J))), some (.int (nI (btq Y.1))), some (.int (nI Y.1.bt)), some (.int (nI Y.1.E.length)), some (.long (nL Y.1.pum + nL Y.1.sht)), none, some (.int (ovl Y.1 be)), l19, l20, l21, l22, l23, l24, l25, l26] [] := by
  have hX : XF c bv bv F F := XF.rf
  refine AF.aload_n dL_law_153 rfl ?_
  refine AF.lv (mc' := 0) (ms' := 0) (bc := 2535 * r9 + 5789 + 1890) (bs := 82834 * r9 + 334614 + 45644) dL_law_154 kv_L_210 (Y_shortage hK) hK.c0.choose_spec rfl hX rfl rfl (Nat.le_of_ble_eq_true rfl) (by decide) rfl (fun F bv hK hX => ?_)
  refine AF.lstore dL_law_157 (by decide) ?_
  refine AF.lconst (nL 0) dL_law_159 (by decide) ?_
  refine AF.lstore dL_law_160 (by decide) ?_
  refine AF.iconst (nI 1) dL_law_162 (by decide) ?_
  refine AF.istore dL_law_163 (by decide) ?_
  exact W_165 ha hs hL hn ih hm hH hW hB hbe hkd _ _ _ be 0 _ _ bv F (by omega) (by omega) (by omega) hK ((hX.at h1 (Nat.le_refl _) h3).trans hf) (Nat.lt_of_lt_of_le h1 hX.1) (hX.bq h1 h3)
set_option maxRecDepth 100000 in
set_option maxHeartbeats 8000000 in
theorem W_134 (ha : gN G ≤ c) (hs : SCR G b L xs) (hL : L ≤ 260) {n r9 : Nat} (hn : n < 58) (ih : ∀ F bv Y hist f m bc bs l6 l7 l8 l9 l10 l11 l12 l13 l14 l15 l16 l17 l18 l19 l20 l21 l22 l23 l24 l25 l26, m ≤ n + 1 → 2535 * r9 + 5789 ≤ bc → 82834 * r9 + 334614 ≤ bs → LH G c Y (2500 * (n + 1)) bv F hist f m → AF G mL_law 15 bc bs LQ F 28 [some (.ref b), some (.ref c), some (.ref (c + 131)), some (.int (nI m)), some (.int (nI (5 * (n + 1)))), some (.int (nI (n + 1))), l6, l7, l8, l9, l10, l11, l12, l13, l14, l15, l16, l17, l18, l19, l20, l21, l22, l23, l24, l25, l26] []) {Y : YS} {hist : Nat → Sg} {f : Nat → Int64} {m bv : Nat} {F : AH} (hm : m ≤ n) (hH : HI hist f m Y) (hW : WI Y.1) (hf : F.2 (c + 131) = some (.inl (gC G 1, 80, .inr (.inl f)))) (h1 : c + 131 < F.1) (h3 : ¬ c + 131 = bv) (hB : 2500 * (n + 1) ≤ 2 ^ 20) (hK : LK G c Y (2500 * n) bv F) {kd be : Nat} (hbe : be < 6) (hkd : kd < 44) (l16 l17 l18 l19 l20 l21 l22 l23 l24 l25 l26 : Option Value) : AF G mL_law 15 (2535 * r9 + 5789 + 1892) (82834 * r9 + 334614 + 45656) LQ F 134 [some (.ref b), some (.ref c), some (.ref (c + 131)), some (.int (nI m)), some (.int (nI (5 * n))), some (.int (nI n)), some (.long (sumV Y.1)), none, some (.int (nI Y.2.2.length)), some (.int (nI kd)), some (.int (nI be)), some (.int (nI (dem Y.1.J))), some (.int (nI (dem (nxN Y.1 be).J))), some (.int (nI (btq Y.1))), some (.int (nI Y.1.bt)), some (.int (nI Y.1.E.length)), l16, l17, l18, l19, l20, l21, l22, l23, l24, l25, l26] [] := by
  have hX : XF c bv bv F F := XF.rf
  refine AF.aload_n dL_law_134 rfl ?_
  refine AF.lv (mc' := 0) (ms' := 0) (bc := 2535 * r9 + 5789 + 1892) (bs := 82834 * r9 + 334614 + 45656) dL_law_135 kv_L_206 (Y_pumped hK) hK.c0.choose_spec rfl hX rfl rfl (Nat.le_of_ble_eq_true rfl) (by decide) rfl (fun F bv hK hX => ?_)
  refine AF.aload_n dL_law_138 rfl ?_
  refine AF.lv (mc' := 0) (ms' := 0) (bc := 2535 * r9 + 5789 + 1892) (bs := 82834 * r9 + 334614 + 45656) dL_law_139 kv_L_210 (Y_shortage hK) hK.c0.choose_spec rfl hX rfl rfl (Nat.le_of_ble_eq_true rfl) (by decide) rfl (fun F bv hK hX => ?_)
  refine AF.ladd dL_law_142 ?_
  refine AF.lstore dL_law_143 (by decide) ?_
  refine AF.aload_n dL_law_145 rfl ?_
  refine AF.iload dL_law_146 rfl ?_
  refine AF.lx (mc' := 2) (ms' := 12) (bc := 2535 * r9 + 5789 + 1890) (bs := 82834 * r9 + 334614 + 45644) dL_law_148 kx_L_213 (W_firstOverload hK ha (by omega) (n := be) (by omega)) hX rfl rfl (Nat.le_of_ble_eq_true rfl) (by decide) rfl (fun F bv hK hX => ?_)
  refine AF.istore dL_law_151 (by decide) ?_
  exact W_153 ha hs hL hn ih hm hH hW ((hX.at h1 (Nat.le_refl _) h3).trans hf) (Nat.lt_of_lt_of_le h1 hX.1) (hX.bq h1 h3) hB hK hbe hkd _ _ _ _ _ _ _ _
set_option maxRecDepth 100000 in
set_option maxHeartbeats 8000000 in
theorem W_116 (ha : gN G ≤ c) (hs : SCR G b L xs) (hL : L ≤ 260) {n r9 : Nat} (hn : n < 58) (ih : ∀ F bv Y hist f m bc bs l6 l7 l8 l9 l10 l11 l12 l13 l14 l15 l16 l17 l18 l19 l20 l21 l22 l23 l24 l25 l26, m ≤ n + 1 → 2535 * r9 + 5789 ≤ bc → 82834 * r9 + 334614 ≤ bs → LH G c Y (2500 * (n + 1)) bv F hist f m → AF G mL_law 15 bc bs LQ F 28 [some (.ref b), some (.ref c), some (.ref (c + 131)), some (.int (nI m)), some (.int (nI (5 * (n + 1)))), some (.int (nI (n + 1))), l6, l7, l8, l9, l10, l11, l12, l13, l14, l15, l16, l17, l18, l19, l20, l21, l22, l23, l24, l25, l26] []) {Y : YS} {hist : Nat → Sg} {f : Nat → Int64} {m bv : Nat} {F : AH} (hm : m ≤ n) (hH : HI hist f m Y) (hW : WI Y.1) (hf : F.2 (c + 131) = some (.inl (gC G 1, 80, .inr (.inl f)))) (h1 : c + 131 < F.1) (h3 : ¬ c + 131 = bv) (hB : 2500 * (n + 1) ≤ 2 ^ 20) (hK : LK G c Y (2500 * n) bv F) {kd be : Nat} (hbe : be < 6) (hkd : kd < 44) (l13 l14 l15 l16 l17 l18 l19 l20 l21 l22 l23 l24 l25 l26 : Option Value) : AF G mL_law 15 (2535 * r9 + 5789 + 1892) (82834 * r9 + 334614 + 45656) LQ F 116 [some (.ref b), some (.ref c), some (.ref (c + 131)), some (.int (nI m)), some (.int (nI (5 * n))), some (.int (nI n)), some (.long (sumV Y.1)), none, some (.int (nI Y.2.2.length)), some (.int (nI kd)), some (.int (nI be)), some (.int (nI (dem Y.1.J))), some (.int (nI (dem (nxN Y.1 be).J))), l13, l14, l15, l16, l17, l18, l19, l20, l21, l22, l23, l24, l25, l26] [] := by
  have hX : XF c bv bv F F := XF.rf
  refine AF.aload_n dL_law_116 rfl ?_
  refine AF.lv (mc' := 0) (ms' := 0) (bc := 2535 * r9 + 5789 + 1892) (bs := 82834 * r9 + 334614 + 45656) dL_law_117 kv_L_197 (Y_beatsUntilEmpty hK) hK.c0.choose_spec rfl hX rfl rfl (Nat.le_of_ble_eq_true rfl) (by decide) rfl (fun F bv hK hX => ?_)
  refine AF.istore dL_law_120 (by decide) ?_
  refine AF.aload_n dL_law_122 rfl ?_
  refine AF.lv (mc' := 0) (ms' := 0) (bc := 2535 * r9 + 5789 + 1892) (bs := 82834 * r9 + 334614 + 45656) dL_law_123 kv_L_200 (Y_beat hK) hK.c0.choose_spec rfl hX rfl rfl (Nat.le_of_ble_eq_true rfl) (by decide) rfl (fun F bv hK hX => ?_)
  refine AF.istore dL_law_126 (by decide) ?_
  refine AF.aload_n dL_law_128 rfl ?_
  refine AF.lv (mc' := 0) (ms' := 0) (bc := 2535 * r9 + 5789 + 1892) (bs := 82834 * r9 + 334614 + 45656) dL_law_129 kv_L_203 (Y_queueLength hK) hK.c0.choose_spec rfl hX rfl rfl (Nat.le_of_ble_eq_true rfl) (by decide) rfl (fun F bv hK hX => ?_)
  refine AF.istore dL_law_132 (by decide) ?_
  exact W_134 ha hs hL hn ih hm hH hW ((hX.at h1 (Nat.le_refl _) h3).trans hf) (Nat.lt_of_lt_of_le h1 hX.1) (hX.bq h1 h3) hB hK hbe hkd _ _ _ _ _ _ _ _ _ _ _
set_option maxRecDepth 100000 in
set_option maxHeartbeats 8000000 in
theorem W_102 (ha : gN G ≤ c) (hs : SCR G b L xs) (hL : L ≤ 260) {n r9 : Nat} (hn : n < 58) (ih : ∀ F bv Y hist f m bc bs l6 l7 l8 l9 l10 l11 l12 l13 l14 l15 l16 l17 l18 l19 l20 l21 l22 l23 l24 l25 l26, m ≤ n + 1 → 2535 * r9 + 5789 ≤ bc → 82834 * r9 + 334614 ≤ bs → LH G c Y (2500 * (n + 1)) bv F hist f m → AF G mL_law 15 bc bs LQ F 28 [some (.ref b), some (.ref c), some (.ref (c + 131)), some (.int (nI m)), some (.int (nI (5 * (n + 1)))), some (.int (nI (n + 1))), l6, l7, l8, l9, l10, l11, l12, l13, l14, l15, l16, l17, l18, l19, l20, l21, l22, l23, l24, l25, l26] []) {Y : YS} {hist : Nat → Sg} {f : Nat → Int64} {m bv : Nat} {F : AH} (hm : m ≤ n) (hH : HI hist f m Y) (hW : WI Y.1) (hf : F.2 (c + 131) = some (.inl (gC G 1, 80, .inr (.inl f)))) (h1 : c + 131 < F.1) (h3 : ¬ c + 131 = bv) (hB : 2500 * (n + 1) ≤ 2 ^ 20) (hK : LK G c Y (2500 * n) bv F) {kd be : Nat} (hbe : be < 6) (hkd : kd < 44) (l11 l12 l13 l14 l15 l16 l17 l18 l19 l20 l21 l22 l23 l24 l25 l26 : Option Value) : AF G mL_law 15 (2535 * r9 + 5789 + 1893) (82834 * r9 + 334614 + 45662) LQ F 102 [some (.ref b), some (.ref c), some (.ref (c + 131)), some (.int (nI m)), some (.int (nI (5 * n))), some (.int (nI n)), some (.long (sumV Y.1)), none, some (.int (nI Y.2.2.length)), some (.int (nI kd)), some (.int (nI be)), l11, l12, l13, l14, l15, l16, l17, l18, l19, l20, l21, l22, l23, l24, l25, l26] [] := by
  have hX : XF c bv bv F F := XF.rf
  refine AF.aload_n dL_law_102 rfl ?_
  refine AF.lv (mc' := 0) (ms' := 0) (bc := 2535 * r9 + 5789 + 1893) (bs := 82834 * r9 + 334614 + 45662) dL_law_103 kv_L_192 (Y_demand hK) hK.c0.choose_spec rfl hX rfl rfl (Nat.le_of_ble_eq_true rfl) (by decide) rfl (fun F bv hK hX => ?_)
  refine AF.istore dL_law_106 (by decide) ?_
  refine AF.aload_n dL_law_108 rfl ?_
  refine AF.iload dL_law_109 rfl ?_
  refine AF.lx (mc' := 1) (ms' := 6) (bc := 2535 * r9 + 5789 + 1892) (bs := 82834 * r9 + 334614 + 45656) dL_law_111 kx_L_195 (W_demandAfter hK ha (by omega) (n := be) (by omega)) hX rfl rfl (Nat.le_of_ble_eq_true rfl) (by decide) rfl (fun F bv hK hX => ?_)
  refine AF.istore dL_law_114 (by decide) ?_
  exact W_116 ha hs hL hn ih hm hH hW ((hX.at h1 (Nat.le_refl _) h3).trans hf) (Nat.lt_of_lt_of_le h1 hX.1) (hX.bq h1 h3) hB hK hbe hkd _ _ _ _ _ _ _ _ _ _ _ _ _ _
set_option maxRecDepth 100000 in
set_option maxHeartbeats 8000000 in
theorem W_88 (ha : gN G ≤ c) (hs : SCR G b L xs) (hL : L ≤ 260) {n r9 : Nat} (hn : n < 58) (ih : ∀ F bv Y hist f m bc bs l6 l7 l8 l9 l10 l11 l12 l13 l14 l15 l16 l17 l18 l19 l20 l21 l22 l23 l24 l25 l26, m ≤ n + 1 → 2535 * r9 + 5789 ≤ bc → 82834 * r9 + 334614 ≤ bs → LH G c Y (2500 * (n + 1)) bv F hist f m → AF G mL_law 15 bc bs LQ F 28 [some (.ref b), some (.ref c), some (.ref (c + 131)), some (.int (nI m)), some (.int (nI (5 * (n + 1)))), some (.int (nI (n + 1))), l6, l7, l8, l9, l10, l11, l12, l13, l14, l15, l16, l17, l18, l19, l20, l21, l22, l23, l24, l25, l26] []) {Y : YS} {hist : Nat → Sg} {f : Nat → Int64} {m bv : Nat} {F : AH} (hm : m ≤ n) (hH : HI hist f m Y) (hW : WI Y.1) (hf : F.2 (c + 131) = some (.inl (gC G 1, 80, .inr (.inl f)))) (h1 : c + 131 < F.1) (h3 : ¬ c + 131 = bv) (hB : 2500 * (n + 1) ≤ 2 ^ 20) (hK : LK G c Y (2500 * n) bv F) {kd : Nat} (hkd : kd < 44) (l9 l10 l11 l12 l13 l14 l15 l16 l17 l18 l19 l20 l21 l22 l23 l24 l25 l26 : Option Value) : AF G mL_law 15 (2535 * r9 + 5789 + 1893) (82834 * r9 + 334614 + 45662) LQ F 88 [some (.ref b), some (.ref c), some (.ref (c + 131)), some (.int (nI m)), some (.int (nI (5 * n))), some (.int (nI n)), some (.long (sumV Y.1)), none, some (.int (nI Y.2.2.length)), l9, l10, l11, l12, l13, l14, l15, l16, l17, l18, l19, l20, l21, l22, l23, l24, l25, l26] [.int (nI kd)] := by
  have hX : XF c bv bv F F := XF.rf
  refine AF.istore dL_law_88 (by decide) ?_
  refine AF.aload_n dL_law_90 rfl ?_
  refine AF.iload dL_law_91 rfl ?_
  refine AF.iconst (nI 1) dL_law_93 (by decide) ?_
  refine AF.iadd dL_law_94 ?_
  rw [nI_add]
  refine AF.bipush (nI 6) dL_law_95 (by decide) ?_
  have hbe := pkv_lt (L := L) (xs := xs) (k := 5 * n + 1) (n := 6) (by decide)
  refine AF.s1 dL_law_97 kv_L_188 ((L_pick_ok hs hL (5 * n + 1) 6 (by omega) (by decide) (by decide))) rfl rfl (Nat.le_of_ble_eq_true rfl) (by decide) rfl ?_
  generalize pkv L xs (5 * n + 1) 6 = be at hbe
  refine AF.istore dL_law_100 (by decide) ?_
  exact W_102 ha hs hL hn ih hm hH hW hf h1 h3 hB hK hbe hkd _ _ _ _ _ _ _ _ _ _ _ _ _ _ _ _
set_option maxRecDepth 100000 in
set_option maxHeartbeats 8000000 in
theorem W_28 (ha : gN G ≤ c) (hs : SCR G b L xs) (hL : L ≤ 260) {n r9 : Nat} (hn : n < 58) (ih : ∀ F bv Y hist f m bc bs l6 l7 l8 l9 l10 l11 l12 l13 l14 l15 l16 l17 l18 l19 l20 l21 l22 l23 l24 l25 l26, m ≤ n + 1 → 2535 * r9 + 5789 ≤ bc → 82834 * r9 + 334614 ≤ bs → LH G c Y (2500 * (n + 1)) bv F hist f m → AF G mL_law 15 bc bs LQ F 28 [some (.ref b), some (.ref c), some (.ref (c + 131)), some (.int (nI m)), some (.int (nI (5 * (n + 1)))), some (.int (nI (n + 1))), l6, l7, l8, l9, l10, l11, l12, l13, l14, l15, l16, l17, l18, l19, l20, l21, l22, l23, l24, l25, l26] []) {Y : YS} {hist : Nat → Sg} {f : Nat → Int64} {m bv : Nat} {F : AH} (hm : m ≤ n) (hH : HI hist f m Y) (hW : WI Y.1) (hf : F.2 (c + 131) = some (.inl (gC G 1, 80, .inr (.inl f)))) (h1 : c + 131 < F.1) (h3 : ¬ c + 131 = bv) (hB : 2500 * (n + 1) ≤ 2 ^ 20) (hK : LK G c Y (2500 * n) bv F) (l6 l7 l8 l9 l10 l11 l12 l13 l14 l15 l16 l17 l18 l19 l20 l21 l22 l23 l24 l25 l26 : Option Value) : AF G mL_law 15 (2535 * r9 + 5789 + 2535) (82834 * r9 + 334614 + 82834) LQ F 28 [some (.ref b), some (.ref c), some (.ref (c + 131)), some (.int (nI m)), some (.int (nI (5 * n))), some (.int (nI n)), l6, l7, l8, l9, l10, l11, l12, l13, l14, l15, l16, l17, l18, l19, l20, l21, l22, l23, l24, l25, l26] [] := by
  have hX : XF c bv bv F F := XF.rf
  refine AF.iload dL_law_28 rfl ?_
  refine AF.bipush (nI 58) dL_law_30 (by decide) ?_
  refine AF.icmp_ge 483 dL_law_32 (by decide) (fun c1 => ?_) (fun c1 => ?_)
  · rw [nI_leI (by omega) (by omega)] at c1; omega
  · refine AF.aload_n dL_law_35 rfl ?_
    refine AF.ly (mc' := 642) (ms' := 37172) (bc := 2535 * r9 + 5789 + 1893) (bs := 82834 * r9 + 334614 + 45662) dL_law_36 kv_L_181 (L_sum_ok hK ha) hX rfl rfl (Nat.le_of_ble_eq_true rfl) (by decide) rfl (fun F bv hK hX => ?_)
    refine AF.lstore dL_law_39 (by decide) ?_
    refine AF.aload_n dL_law_41 rfl ?_
    refine AF.lv (mc' := 0) (ms' := 0) (bc := 2535 * r9 + 5789 + 1893) (bs := 82834 * r9 + 334614 + 45662) dL_law_42 kv_L_185 (Y_undoCount hK) hK.c0.choose_spec rfl hX rfl rfl (Nat.le_of_ble_eq_true rfl) (by decide) rfl (fun F bv hK hX => ?_)
    have hf2 := (hX.at h1 (Nat.le_refl _) h3).trans hf
    have h12 := Nat.lt_of_lt_of_le h1 hX.1
    have h32 := hX.bq h1 h3
    refine AF.istore dL_law_45 (by decide) ?_
    refine AF.iload dL_law_47 rfl ?_
    refine AF.iconst (nI 3) dL_law_49 (by decide) ?_
    refine AF.icmp_ge 57 dL_law_50 (by decide) (fun c2 => ?_) (fun c2 => ?_)
    · refine AF.iload dL_law_57 rfl ?_
      refine AF.iconst (nI 5) dL_law_59 (by decide) ?_
      refine AF.icmp_ge 68 dL_law_60 (by decide) (fun c3 => ?_) (fun c3 => ?_)
      · refine AF.iload dL_law_68 rfl ?_
        refine AF.bipush (nI 9) dL_law_70 (by decide) ?_
        refine AF.icmp_ge 80 dL_law_72 (by decide) (fun c4 => ?_) (fun c4 => ?_)
        · refine AF.aload_n dL_law_80 rfl ?_
          refine AF.iload dL_law_81 rfl ?_
          refine AF.bipush (nI 44) dL_law_83 (by decide) ?_
          have hk9 := pkv_lt (L := L) (xs := xs) (k := 5 * n) (n := 44) (by decide)
          refine AF.s1 dL_law_85 kv_L_188 ((L_pick_ok hs hL (5 * n) 44 (by omega) (by decide) (by decide))) rfl rfl (Nat.le_of_ble_eq_true rfl) (by decide) rfl ?_
          exact W_88 ha hs hL hn ih hm hH hW hf2 h12 h32 hB hK hk9 _ _ _ _ _ _ _ _ _ _ _ _ _ _ _ _ _ _
        · refine AF.bipush (nI 20) dL_law_75 (by decide) ?_
          refine AF.goto 88 dL_law_77 (by decide) ?_
          exact W_88 ha hs hL hn ih hm hH hW hf2 h12 h32 hB hK (kd := 20) (by decide) _ _ _ _ _ _ _ _ _ _ _ _ _ _ _ _ _ _
      · refine AF.bipush (nI 16) dL_law_63 (by decide) ?_
        refine AF.goto 88 dL_law_65 (by decide) ?_
        exact W_88 ha hs hL hn ih hm hH hW hf2 h12 h32 hB hK (kd := 16) (by decide) _ _ _ _ _ _ _ _ _ _ _ _ _ _ _ _ _ _
    · refine AF.iconst (nI 0) dL_law_53 (by decide) ?_
      refine AF.goto 88 dL_law_54 (by decide) ?_
      exact W_88 ha hs hL hn ih hm hH hW hf2 h12 h32 hB hK (kd := 0) (by decide) _ _ _ _ _ _ _ _ _ _ _ _ _ _ _ _ _ _
set_option maxRecDepth 100000 in
set_option maxHeartbeats 8000000 in
theorem L_loop (ha : gN G ≤ c) (hs : SCR G b L xs) (hL : L ≤ 260) : ∀ r n F bv Y hist f m bc bs l6 l7 l8 l9 l10 l11 l12 l13 l14 l15 l16 l17 l18 l19 l20 l21 l22 l23 l24 l25 l26, n + r = 58 → m ≤ n → 2535 * r + 5789 ≤ bc → 82834 * r + 334614 ≤ bs → LH G c Y (2500 * n) bv F hist f m → AF G mL_law 15 bc bs LQ F 28 [some (.ref b), some (.ref c), some (.ref (c + 131)), some (.int (nI m)), some (.int (nI (5 * n))), some (.int (nI n)), l6, l7, l8, l9, l10, l11, l12, l13, l14, l15, l16, l17, l18, l19, l20, l21, l22, l23, l24, l25, l26] [] := by
  intro r
  induction r with
  | zero =>
    intro n F bv Y hist f m bc bs l6 l7 l8 l9 l10 l11 l12 l13 l14 l15 l16 l17 l18 l19 l20 l21 l22 l23 l24 l25 l26 hn hm hb hs9 hH
    obtain ⟨hK, hW, hI, hf, h1, h3⟩ := hH
    have hX : XF c bv bv F F := XF.rf
    refine AF.less (d' := 15) (bc' := 5789) (bs' := 334614) ?_ (Nat.le_refl _) (by omega) (by omega)
    refine AF.iload dL_law_28 rfl ?_
    refine AF.bipush (nI 58) dL_law_30 (by decide) ?_
    refine AF.icmp_ge 483 dL_law_32 (by decide) (fun c1 => ?_) (fun c1 => ?_)
    · refine AF.aload_n dL_law_483 rfl ?_
      refine AF.aload_n dL_law_484 rfl ?_
      refine AF.iload_n dL_law_485 rfl ?_
      refine AF.ly (mc' := 5789) (ms' := 334614) (bc := 0) (bs := 0) dL_law_486 kv_L_226 (L_isKept_ok hK ha (by omega) hI hf h1 h3) hX rfl rfl (Nat.le_of_ble_eq_true rfl) (by decide) rfl (fun F bv hK hX => ?_)
      exact AF.zreturn dL_law_489 rfl rfl rfl
    · exact absurd (nI_le (a := 58) (b := n) (by omega) (by omega)) c1
  | succ r ih =>
    intro n F bv Y hist f m bc bs l6 l7 l8 l9 l10 l11 l12 l13 l14 l15 l16 l17 l18 l19 l20 l21 l22 l23 l24 l25 l26 hn hm hb hs9 hH
    obtain ⟨hK, hW, hI, hf, h1, h3⟩ := hH
    refine AF.less (d' := 15) (bc' := 2535 * r + 5789 + 2535) (bs' := 82834 * r + 334614 + 82834) ?_ (Nat.le_refl _) (by omega) (by omega)
    exact W_28 (r9 := r) ha hs hL (by omega) (fun F bv Y hist f m bc bs l6 l7 l8 l9 l10 l11 l12 l13 l14 l15 l16 l17 l18 l19 l20 l21 l22 l23 l24 l25 l26 hm hb hs9 hH => ih (n + 1) F bv Y hist f m bc bs l6 l7 l8 l9 l10 l11 l12 l13 l14 l15 l16 l17 l18 l19 l20 l21 l22 l23 l24 l25 l26 (by omega) hm hb hs9 hH) hm hI hW hf h1 h3 (by omega) hK _ _ _ _ _ _ _ _ _ _ _ _ _ _ _ _ _ _ _ _ _
set_option maxRecDepth 100000 in
set_option maxHeartbeats 8000000 in
theorem L_law_ok {F0 : AH} (hc : gN G ≤ c) (hz : F0.1 = c) (hs : SCR G b L xs) (hL : L ≤ 260) : AF G mL_law 15 153593 5178351 LQ F0 0 [some (.ref b), none, none, none, none, none, none, none, none, none, none, none, none, none, none, none, none, none, none, none, none, none, none, none, none, none, none] [] := by
  refine AF.new (n := 12) (bc := 153592) (bs := 5178339) dL_law_0 kn_L_15 rfl ?_
  intro F e9 h9 o9
  rw [hz] at e9 h9 ⊢
  refine AF.dup dL_law_3 rfl ?_
  refine AF.callI (mc' := 130) (ms' := 2101) (bc := 153462) (bs := 5176238) dL_law_4 kv_L_180 (X8_init_ok h9 hc e9) rfl rfl (Nat.le_of_ble_eq_true rfl) (by decide) rfl (fun E F9 q => nomatch q.1) (fun v F2 q => ?_)
  obtain ⟨q, hC, m1, m2⟩ := q
  cases q
  clear e9 h9 o9 hz
  refine AF.astore_n dL_law_7 (by decide) ?_
  refine AF.bipush (nI 80) dL_law_8 (by decide) ?_
  refine AF.newJ (n := 80) (bc := 153461) (bs := 5176158) dL_law_10 aw_long rfl (by decide) ?_
  intro F3 e9 h9 o9
  rw [m1] at e9 h9 o9 ⊢
  have hC3 := hC.kept (F' := F3) (fun q a b => o9 q (by omega)) (o9 (c + 42) (by omega)) (by rw [e9, m1]; omega)
  have hK : LK G c (s0, none, []) (2500 * 0) (c + 42) F3 := ⟨X0, ⟨rfl, rfl, rfl, rfl⟩, XI.x0, hC3, by omega⟩
  have hX : XF c (c + 42) (c + 42) F3 F3 := XF.rf
  refine AF.astore_n dL_law_12 (by decide) ?_
  refine AF.iconst (nI 0) dL_law_13 (by decide) ?_
  refine AF.istore_n dL_law_14 (by decide) ?_
  refine AF.aload_n dL_law_15 rfl ?_
  refine AF.iload_n dL_law_16 rfl ?_
  refine AF.aload_n dL_law_17 rfl ?_
  refine AF.ly (mc' := 642) (ms' := 37172) (bc := 152819) (bs := 5138986) dL_law_18 kv_L_181 (L_sum_ok hK hc) hX rfl rfl (Nat.le_of_ble_eq_true rfl) (by decide) rfl (fun F bv hK hX => ?_)
  have h9' := (hX.at (by omega) (Nat.le_refl _) (by omega)).trans h9
  have h3' := hX.bq (q := c + 131) (by omega) (by omega)
  have hz1 := hX.1
  refine AF.lastoreF 0 dL_law_21 h9' (by omega) rfl (by decide) (by decide) ?_
  intro F4 e8 h8 o8
  refine AF.iconst (nI 0) dL_law_22 (by decide) ?_
  refine AF.istore dL_law_23 (by decide) ?_
  refine AF.iconst (nI 0) dL_law_25 (by decide) ?_
  refine AF.istore dL_law_26 (by decide) ?_
  refine L_loop hc hs hL 58 0 F4 bv (s0, none, []) (fun _ => s0) _ 0 _ _ _ _ _ _ _ _ _ _ _ _ _ _ _ _ _ _ _ _ _ _ _ (by decide) (Nat.le_refl _) (by decide) (by decide) ⟨hK.kept (fun q _ q2 => o8 q (by omega)) (o8 bv (fun z => h3' z.symm)) (Nat.le_of_eq e8.symm), WI_0, ⟨rfl, fun i hi => ?_, rfl, fun k hk => absurd hk (Nat.not_lt_zero _)⟩, h8, by omega, h3'⟩
  rw [show i = 0 by omega]
  simp [vp_updL]
end

