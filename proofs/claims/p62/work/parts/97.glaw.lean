/-! The law. -/
theorem nL_a (a b : Nat) : nL a + nL b = nL (a + b) := (Int64.ofNat_add a b).symm
theorem nL_lt {a b : Nat} (ha : a < 2 ^ 62) (hb : b < 2 ^ 62) : nL a < nL b ↔ a < b := by
  unfold nL
  rw [Int64.lt_iff_toInt_lt, lg_ofNat_toInt (by omega), lg_ofNat_toInt (by omega)]
  omega
theorem WI_0 : WI s0 := by unfold WI; decide
/-- the stages so far, one more -/
theorem HI.push {hist : Nat → Sg} {f : Nat → Int64} {m : Nat} {Y : YS} {σ : Sg} (h : HI hist f m Y) (sv : Option Sg) : HI (fun i => if i = m + 1 then σ else hist i) (vp_updL f (m + 1) (sumV σ)) (m + 1) (σ, sv, pushH Y.2.2 Y.1) := by
  obtain ⟨h1, h2, h3, h4⟩ := h
  have h8 : Y.2.2.length ≤ 8 := by rw [h3]; split <;> omega
  have hp := pushH_len (σ := Y.1) h8
  refine ⟨by show σ = if m + 1 = m + 1 then σ else _; rw [if_pos rfl], fun i hi => ?_, ?_, fun k hk => ?_⟩
  · by_cases e : i = m + 1
    · subst e
      simp [vp_updL]
    · have e2 := h2 i (by omega)
      simp only [vp_updL, if_neg e]
      exact e2
  · show (pushH Y.2.2 Y.1).length = _
    rw [hp]
    rw [h3]
    split <;> split <;> split <;> omega
  · have hk : k < (pushH Y.2.2 Y.1).length := hk
    show hget (pushH Y.2.2 Y.1) k = if m + 1 - (pushH Y.2.2 Y.1).length + k = m + 1 then σ else hist (m + 1 - (pushH Y.2.2 Y.1).length + k)
    by_cases e8 : Y.2.2.length = 8
    · have hp8 : (pushH Y.2.2 Y.1).length = 8 := by rw [hp, if_pos e8]
      rw [hp8] at hk ⊢
      have h3' : 8 ≤ m := by
        rw [e8] at h3
        split at h3 <;> omega
      rw [if_neg (show ¬ m + 1 - 8 + k = m + 1 by omega)]
      unfold pushH
      have el : (Y.2.2.eraseIdx 0).length = 7 := by
        rw [List.length_eraseIdx, if_pos (by omega), e8]
      rw [if_pos e8, hget_app, el]
      by_cases e : k = 7
      · subst e
        rw [if_pos rfl, h1]
        congr 1
        omega
      · rw [if_neg e, hget_era, h4 (k + 1) (by omega), e8]
        congr 1
        omega
    · have hp9 : (pushH Y.2.2 Y.1).length = Y.2.2.length + 1 := by rw [hp, if_neg e8]
      rw [hp9] at hk ⊢
      have h3' : Y.2.2.length = m := by
        rw [h3]
        split
        · rfl
        · rename_i q
          exact absurd (by rw [h3, if_neg q]) e8
      rw [if_neg (show ¬ m + 1 - (Y.2.2.length + 1) + k = m + 1 by omega)]
      unfold pushH
      rw [if_neg e8, hget_app]
      by_cases e : k = Y.2.2.length
      · rw [if_pos e, h1]
        congr 1
        omega
      · rw [if_neg e, h4 k (by omega)]
        congr 1
        omega
abbrev mL_law : MI := (yL_law, cL_law, 27, some .boolean, [])
def LQ : AR → AH → Prop := fun r _ => r = .inl (some (.int 1))
section
variable {G : GA} {c b L : Nat} {xs : Nat → Int32}
/-- what the law knows at its loop's head -/
def LH (G : GA) (c : Nat) (Y : YS) (B bv : Nat) (F : AH) (hist : Nat → Sg) (f : Nat → Int64) (m : Nat) : Prop := LK G c Y B bv F ∧ WI Y.1 ∧ HI hist f m Y ∧ F.2 (c + 131) = some (.inl (gC G 1, 80, .inr (.inl f))) ∧ c + 131 < F.1 ∧ ¬ c + 131 = bv
set_option maxRecDepth 100000 in
set_option maxHeartbeats 8000000 in
theorem W_438 (ha : gN G ≤ c) (hs : SCR G b L xs) (hL : L ≤ 260) {n r9 : Nat} (hn : n < 58) (ih : ∀ F bv Y hist f m bc bs l6 l7 l8 l9 l10 l11 l12 l13 l14 l15 l16 l17 l18 l19 l20 l21 l22 l23 l24 l25 l26, m ≤ n + 1 → 2535 * r9 + 5789 ≤ bc → 82834 * r9 + 334614 ≤ bs → LH G c Y (2500 * (n + 1)) bv F hist f m → AF G mL_law 15 bc bs LQ F 28 [some (.ref b), some (.ref c), some (.ref (c + 131)), some (.int (nI m)), some (.int (nI (5 * (n + 1)))), some (.int (nI (n + 1))), l6, l7, l8, l9, l10, l11, l12, l13, l14, l15, l16, l17, l18, l19, l20, l21, l22, l23, l24, l25, l26] []) {Y Y' : YS} {hist : Nat → Sg} {f : Nat → Int64} {m B1 kd be bv : Nat} {r : Int32} {F : AH} (hm : m ≤ n) (hH : HI hist f m Y) (hD : ((r ≤ -7400 ∧ (kd < 14 ∨ 15 < kd) ∧ Y' = Y) ∨ (-7000 < r ∧ ∃ σ, Y' = (σ, Y.2.1, pushH Y.2.2 Y.1) ∧ (34 < kd → kd < 41 → σ = nxN Y.1 be ∧ 1 ≤ be ∧ r = nI (nxF Y.1 be)) ∧ (13 < kd → kd < 16 → σ = aTrm Y.1 ∧ r = nI (trm Y.1.cap Y.1.w 100 Y.1.J).1)))) (hW : WI Y'.1) (hf : F.2 (c + 131) = some (.inl (gC G 1, 80, .inr (.inl f)))) (h1 : c + 131 < F.1) (h3 : ¬ c + 131 = bv) (hB : 2500 * (n + 1) ≤ 2 ^ 21) (hK : LK G c Y' (2500 * (n + 1)) bv F) (l9 l10 l11 l12 l13 l14 l15 l16 l17 l18 l19 l20 l21 l22 l24 l25 : Option Value) : AF G mL_law 15 (2535 * r9 + 5789 + 642) (82834 * r9 + 334614 + 37172) LQ F 438 [some (.ref b), some (.ref c), some (.ref (c + 131)), some (.int (nI m)), some (.int (nI (5 * n + 5))), some (.int (nI n)), some (.long (sumV Y.1)), none, some (.int (nI Y.2.2.length)), l9, l10, l11, l12, l13, l14, l15, l16, l17, l18, l19, l20, l21, l22, some (.int (r)), l24, l25, some (.int (1))] [] := by
  have hX : XF c bv bv F F := XF.rf
  have e5 : 5 * n + 5 = 5 * (n + 1) := by omega
  rw [e5]
  rcases hD with ⟨hr, -, rfl⟩ | ⟨hr, σ, rfl, -, -⟩
  · refine AF.iload dL_law_438 rfl ?_
    refine AF.sipush (-7400) dL_law_440 (by decide) ?_
    refine AF.icmp_gt 467 dL_law_443 (by decide) (fun c1 => ?_) (fun c1 => ?_)
    · exact absurd hr (Int32.not_le.mpr c1)
    · refine AF.aload_n dL_law_446 rfl ?_
      refine AF.ly (mc' := 642) (ms' := 37172) (bc := 2535 * r9 + 5789) (bs := 82834 * r9 + 334614) dL_law_447 kv_L_181 (L_sum_ok hK ha) hX rfl rfl (Nat.le_of_ble_eq_true rfl) (by decide) rfl (fun F bv hK hX => ?_)
      refine AF.lload dL_law_450 rfl ?_
      refine AF.lcmp dL_law_452 ?_
      refine AF.if_ne 465 dL_law_453 (by decide) (fun c2 => ?_) (fun c2 => ?_)
      · exact absurd lcmp_self c2
      · refine AF.aload_n dL_law_456 rfl ?_
        refine AF.lv (mc' := 0) (ms' := 0) (bc := 2535 * r9 + 5789) (bs := 82834 * r9 + 334614) dL_law_457 kv_L_185 (Y_undoCount hK) hK.c0.choose_spec rfl hX rfl rfl (Nat.le_of_ble_eq_true rfl) (by decide) rfl (fun F bv hK hX => ?_)
        refine AF.iload dL_law_460 rfl ?_
        refine AF.icmp_eq 477 dL_law_462 (by decide) (fun c3 => ?_) (fun c3 => ?_)
        · refine AF.inc1 dL_law_477 rfl (by decide) ?_
          refine AF.goto 28 dL_law_480 (by decide) ?_
          exact ih F _ Y' hist f m _ _ _ _ _ _ _ _ _ _ _ _ _ _ _ _ _ _ _ _ _ _ _ (by omega) (Nat.le_refl _) (Nat.le_refl _) ⟨hK, hW, hH, (hX.at h1 (Nat.le_refl _) h3).trans hf, Nat.lt_of_lt_of_le h1 hX.1, hX.bq h1 h3⟩
        · exact absurd rfl c3
  · have hr9 := hr
    refine AF.iload dL_law_438 rfl ?_
    refine AF.sipush (-7400) dL_law_440 (by decide) ?_
    refine AF.icmp_gt 467 dL_law_443 (by decide) (fun c1 => ?_) (fun c1 => ?_)
    · refine AF.inc1 dL_law_467 rfl (by decide) ?_
      refine AF.aload_n dL_law_470 rfl ?_
      refine AF.iload_n dL_law_471 rfl ?_
      refine AF.aload_n dL_law_472 rfl ?_
      refine AF.ly (mc' := 642) (ms' := 37172) (bc := 2535 * r9 + 5789) (bs := 82834 * r9 + 334614) dL_law_473 kv_L_181 (L_sum_ok hK ha) hX rfl rfl (Nat.le_of_ble_eq_true rfl) (by decide) rfl (fun F bv hK hX => ?_)
      refine AF.lastoreF (m + 1) dL_law_476 ((hX.at h1 (Nat.le_refl _) h3).trans hf) (by omega) rfl (by omega) (by decide) ?_
      intro F2 e9 h9 o9
      have hq9 := hX.bq h1 h3
      have hz9 := Nat.lt_of_lt_of_le h1 hX.1
      refine AF.inc1 dL_law_477 rfl (by decide) ?_
      refine AF.goto 28 dL_law_480 (by decide) ?_
      exact ih F2 bv (σ, Y.2.1, pushH Y.2.2 Y.1) _ _ (m + 1) _ _ _ _ _ _ _ _ _ _ _ _ _ _ _ _ _ _ _ _ _ _ _ (by omega) (Nat.le_refl _) (Nat.le_refl _) ⟨hK.kept (fun q _ q2 => o9 q (by omega)) (o9 bv (fun z => hq9 z.symm)) (Nat.le_of_eq e9.symm), hW, hH.push _, h9, by omega, hq9⟩
    · exact absurd (Int32.lt_trans (show (-7400 : Int32) < -7000 by decide) hr) c1
set_option maxRecDepth 100000 in
set_option maxHeartbeats 8000000 in
theorem W_405 (ha : gN G ≤ c) (hs : SCR G b L xs) (hL : L ≤ 260) {n r9 : Nat} (hn : n < 58) (ih : ∀ F bv Y hist f m bc bs l6 l7 l8 l9 l10 l11 l12 l13 l14 l15 l16 l17 l18 l19 l20 l21 l22 l23 l24 l25 l26, m ≤ n + 1 → 2535 * r9 + 5789 ≤ bc → 82834 * r9 + 334614 ≤ bs → LH G c Y (2500 * (n + 1)) bv F hist f m → AF G mL_law 15 bc bs LQ F 28 [some (.ref b), some (.ref c), some (.ref (c + 131)), some (.int (nI m)), some (.int (nI (5 * (n + 1)))), some (.int (nI (n + 1))), l6, l7, l8, l9, l10, l11, l12, l13, l14, l15, l16, l17, l18, l19, l20, l21, l22, l23, l24, l25, l26] []) {Y Y' : YS} {hist : Nat → Sg} {f : Nat → Int64} {m kd be bv : Nat} {r : Int32} {F : AH} (hm : m ≤ n) (hH : HI hist f m Y) (hD : ((r ≤ -7400 ∧ (kd < 14 ∨ 15 < kd) ∧ Y' = Y) ∨ (-7000 < r ∧ ∃ σ, Y' = (σ, Y.2.1, pushH Y.2.2 Y.1) ∧ (34 < kd → kd < 41 → σ = nxN Y.1 be ∧ 1 ≤ be ∧ r = nI (nxF Y.1 be)) ∧ (13 < kd → kd < 16 → σ = aTrm Y.1 ∧ r = nI (trm Y.1.cap Y.1.w 100 Y.1.J).1)))) (hW : WI Y'.1) (hf : F.2 (c + 131) = some (.inl (gC G 1, 80, .inr (.inl f)))) (h1 : c + 131 < F.1) (h3 : ¬ c + 131 = bv) (hB : 2500 * (n + 1) ≤ 2 ^ 20) (hK : LK G c Y' (2500 * (n + 1)) bv F) (l9 l10 l11 l12 l13 l14 l15 l16 l17 l18 l19 l20 l21 l22 l24 l25 : Option Value) : AF G mL_law 15 (2535 * r9 + 5789 + 1853) (82834 * r9 + 334614 + 44438) LQ F 405 [some (.ref b), some (.ref c), some (.ref (c + 131)), some (.int (nI m)), some (.int (nI (5 * n))), some (.int (nI n)), some (.long (sumV Y.1)), none, some (.int (nI Y.2.2.length)), l9, l10, l11, l12, l13, l14, l15, l16, l17, l18, l19, l20, l21, l22, some (.int (r)), l24, l25, some (.int (1))] [] := by
  have hX : XF c bv bv F F := XF.rf
  refine AF.iinc dL_law_405 rfl (by decide) ?_
  rw [show Int32.ofInt 5 = nI 5 by decide, nI_add]
  have go : ∀ x : Int32, AF G mL_law 15 (2535 * r9 + 5789 + 1853) (82834 * r9 + 334614 + 44438) LQ F 430 [some (.ref b), some (.ref c), some (.ref (c + 131)), some (.int (nI m)), some (.int (nI (5 * n + 5))), some (.int (nI n)), some (.long (sumV Y.1)), none, some (.int (nI Y.2.2.length)), l9, l10, l11, l12, l13, l14, l15, l16, l17, l18, l19, l20, l21, l22, some (.int (r)), l24, l25, some (.int (1))] [.int x, .int (nI (5 * n + 5)), .ref b, .ref c] := by
    intro x
    refine AF.ly (mc' := 1211) (ms' := 7266) (bc := 2535 * r9 + 5789 + 642) (bs := 82834 * r9 + 334614 + 37172) dL_law_430 kv_L_222 (L_isWhole_ok hK ha (by omega) hW hs hL (5 * n + 5) (by omega) x) hX rfl rfl (Nat.le_of_ble_eq_true rfl) (by decide) rfl (fun F bv hK hX => ?_)
    refine AF.if_ne 438 dL_law_433 (by decide) (fun c2 => ?_) (fun c2 => ?_)
    · exact W_438 (B1 := 0) ha hs hL hn ih hm hH hD hW ((hX.at h1 (Nat.le_refl _) h3).trans hf) (Nat.lt_of_lt_of_le h1 hX.1) (hX.bq h1 h3) (by omega) hK _ _ _ _ _ _ _ _ _ _ _ _ _ _ _ _
    · exact absurd c2 (by decide)
  refine AF.iload dL_law_408 rfl ?_
  refine AF.if_eq 436 dL_law_410 (by decide) (fun c1 => ?_) (fun c1 => ?_)
  · exact absurd c1 (by decide)
  · refine AF.aload_n dL_law_413 rfl ?_
    refine AF.aload_n dL_law_414 rfl ?_
    refine AF.iload dL_law_415 rfl ?_
    refine AF.iload dL_law_417 rfl ?_
    refine AF.iconst (nI 5) dL_law_419 (by decide) ?_
    refine AF.irem dL_law_420 (by decide) ?_
    refine AF.iconst (nI 4) dL_law_421 (by decide) ?_
    rw [pk_rem (by omega) (by omega) (by omega)]
    refine AF.icmp_ne 429 dL_law_422 (by decide) (fun c2 => ?_) (fun c2 => ?_)
    · refine AF.iconst (0) dL_law_429 (by decide) ?_
      exact go _
    · refine AF.iconst (1) dL_law_425 (by decide) ?_
      refine AF.goto 430 dL_law_426 (by decide) ?_
      exact go _
set_option maxRecDepth 100000 in
set_option maxHeartbeats 8000000 in
theorem W_371 (ha : gN G ≤ c) (hs : SCR G b L xs) (hL : L ≤ 260) {n r9 : Nat} (hn : n < 58) (ih : ∀ F bv Y hist f m bc bs l6 l7 l8 l9 l10 l11 l12 l13 l14 l15 l16 l17 l18 l19 l20 l21 l22 l23 l24 l25 l26, m ≤ n + 1 → 2535 * r9 + 5789 ≤ bc → 82834 * r9 + 334614 ≤ bs → LH G c Y (2500 * (n + 1)) bv F hist f m → AF G mL_law 15 bc bs LQ F 28 [some (.ref b), some (.ref c), some (.ref (c + 131)), some (.int (nI m)), some (.int (nI (5 * (n + 1)))), some (.int (nI (n + 1))), l6, l7, l8, l9, l10, l11, l12, l13, l14, l15, l16, l17, l18, l19, l20, l21, l22, l23, l24, l25, l26] []) {Y Y' : YS} {hist : Nat → Sg} {f : Nat → Int64} {m kd be bv : Nat} {r : Int32} {F : AH} (hm : m ≤ n) (hH : HI hist f m Y) (hD : ((r ≤ -7400 ∧ (kd < 14 ∨ 15 < kd) ∧ Y' = Y) ∨ (-7000 < r ∧ ∃ σ, Y' = (σ, Y.2.1, pushH Y.2.2 Y.1) ∧ (34 < kd → kd < 41 → σ = nxN Y.1 be ∧ 1 ≤ be ∧ r = nI (nxF Y.1 be)) ∧ (13 < kd → kd < 16 → σ = aTrm Y.1 ∧ r = nI (trm Y.1.cap Y.1.w 100 Y.1.J).1)))) (hW : WI Y'.1) (hf : F.2 (c + 131) = some (.inl (gC G 1, 80, .inr (.inl f)))) (h1 : c + 131 < F.1) (h3 : ¬ c + 131 = bv) (hB : 2500 * (n + 1) ≤ 2 ^ 20) (hK : LK G c Y' (2500 * (n + 1)) bv F) (t p : Int32) (ht : t = 0 ∨ (cntB (wld Y'.1.J Y'.1.cap Y'.1.w) Y'.1.J.length = 0 ∧ nI (dem Y'.1.J) = nI (dem Y.1.J) - r))  : AF G mL_law 15 (2535 * r9 + 5789 + 1853) (82834 * r9 + 334614 + 44438) LQ F 371 [some (.ref b), some (.ref c), some (.ref (c + 131)), some (.int (nI m)), some (.int (nI (5 * n))), some (.int (nI n)), some (.long (sumV Y.1)), none, some (.int (nI Y.2.2.length)), some (.int (nI kd)), some (.int (nI be)), some (.int (nI (dem Y.1.J))), some (.int (nI (dem (nxN Y.1 be).J))), some (.int (nI (btq Y.1))), some (.int (nI Y.1.bt)), some (.int (nI Y.1.E.length)), some (.long (nL Y.1.pum + nL Y.1.sht)), none, some (.int (ovl Y.1 be)), some (.long (nL Y.1.sht)), none, some (.long (nL (sumN (fun i => dem (nxN Y.1 (i + 1)).J) be))), none, some (.int (r)), some (.int (p)), some (.int (t)), some (.int (1))] [] := by
  have hX : XF c bv bv F F := XF.rf
  have go : ∀ F bv, LK G c Y' (2500 * (n + 1)) bv F → F.2 (c + 131) = some (.inl (gC G 1, 80, .inr (.inl f))) → c + 131 < F.1 → ¬ c + 131 = bv → AF G mL_law 15 (2535 * r9 + 5789 + 1853) (82834 * r9 + 334614 + 44438) LQ F 402 [some (.ref b), some (.ref c), some (.ref (c + 131)), some (.int (nI m)), some (.int (nI (5 * n))), some (.int (nI n)), some (.long (sumV Y.1)), none, some (.int (nI Y.2.2.length)), some (.int (nI kd)), some (.int (nI be)), some (.int (nI (dem Y.1.J))), some (.int (nI (dem (nxN Y.1 be).J))), some (.int (nI (btq Y.1))), some (.int (nI Y.1.bt)), some (.int (nI Y.1.E.length)), some (.long (nL Y.1.pum + nL Y.1.sht)), none, some (.int (ovl Y.1 be)), some (.long (nL Y.1.sht)), none, some (.long (nL (sumN (fun i => dem (nxN Y.1 (i + 1)).J) be))), none, some (.int (r)), some (.int (p)), some (.int (t)), some (.int (1))] [.int 1, .int 1] := by
    intro F bv hK hf h1 h3
    refine AF.iand dL_law_402 ?_
    rw [show (1 : Int32) &&& 1 = 1 from by decide]
    refine AF.istore dL_law_403 (by decide) ?_
    exact W_405 ha hs hL hn ih hm hH hD hW hf h1 h3 hB hK _ _ _ _ _ _ _ _ _ _ _ _ _ _ _ _
  refine AF.iload dL_law_371 rfl ?_
  refine AF.iload dL_law_373 rfl ?_
  refine AF.if_eq 397 dL_law_375 (by decide) (fun c1 => ?_) (fun c1 => ?_)
  · refine AF.iconst (1) dL_law_397 (by decide) ?_
    refine AF.goto 402 dL_law_398 (by decide) ?_
    exact go F bv hK hf h1 h3
  · rcases ht with ht | ⟨ht1, ht2⟩
    · exact absurd ht c1
    · have ht9 := ht1
      refine AF.aload_n dL_law_378 rfl ?_
      refine AF.lv (mc' := 0) (ms' := 0) (bc := 2535 * r9 + 5789 + 1853) (bs := 82834 * r9 + 334614 + 44438) dL_law_379 kv_L_219 (Y_wildCount hK) hK.c0.choose_spec rfl hX rfl rfl (Nat.le_of_ble_eq_true rfl) (by decide) rfl (fun F bv hK hX => ?_)
      rw [ht1]
      refine AF.if_ne 401 dL_law_382 (by decide) (fun c2 => ?_) (fun c2 => ?_)
      · exact absurd rfl c2
      · refine AF.aload_n dL_law_385 rfl ?_
        refine AF.lv (mc' := 0) (ms' := 0) (bc := 2535 * r9 + 5789 + 1853) (bs := 82834 * r9 + 334614 + 44438) dL_law_386 kv_L_192 (Y_demand hK) hK.c0.choose_spec rfl hX rfl rfl (Nat.le_of_ble_eq_true rfl) (by decide) rfl (fun F bv hK hX => ?_)
        refine AF.iload dL_law_389 rfl ?_
        refine AF.iload dL_law_391 rfl ?_
        refine AF.isub dL_law_393 ?_
        refine AF.icmp_ne 401 dL_law_394 (by decide) (fun c3 => ?_) (fun c3 => ?_)
        · exact absurd ht2 c3
        · refine AF.iconst (1) dL_law_397 (by decide) ?_
          refine AF.goto 402 dL_law_398 (by decide) ?_
          exact go F bv hK ((hX.at h1 (Nat.le_refl _) h3).trans hf) (Nat.lt_of_lt_of_le h1 hX.1) (hX.bq h1 h3)
set_option maxRecDepth 100000 in
set_option maxHeartbeats 8000000 in
theorem W_253 (ha : gN G ≤ c) (hs : SCR G b L xs) (hL : L ≤ 260) {n r9 : Nat} (hn : n < 58) (ih : ∀ F bv Y hist f m bc bs l6 l7 l8 l9 l10 l11 l12 l13 l14 l15 l16 l17 l18 l19 l20 l21 l22 l23 l24 l25 l26, m ≤ n + 1 → 2535 * r9 + 5789 ≤ bc → 82834 * r9 + 334614 ≤ bs → LH G c Y (2500 * (n + 1)) bv F hist f m → AF G mL_law 15 bc bs LQ F 28 [some (.ref b), some (.ref c), some (.ref (c + 131)), some (.int (nI m)), some (.int (nI (5 * (n + 1)))), some (.int (nI (n + 1))), l6, l7, l8, l9, l10, l11, l12, l13, l14, l15, l16, l17, l18, l19, l20, l21, l22, l23, l24, l25, l26] []) {Y Y' : YS} {hist : Nat → Sg} {f : Nat → Int64} {m kd be bv : Nat} {r : Int32} {F : AH} (hm : m ≤ n) (hH : HI hist f m Y) (hD : ((r ≤ -7400 ∧ (kd < 14 ∨ 15 < kd) ∧ Y' = Y) ∨ (-7000 < r ∧ ∃ σ, Y' = (σ, Y.2.1, pushH Y.2.2 Y.1) ∧ (34 < kd → kd < 41 → σ = nxN Y.1 be ∧ 1 ≤ be ∧ r = nI (nxF Y.1 be)) ∧ (13 < kd → kd < 16 → σ = aTrm Y.1 ∧ r = nI (trm Y.1.cap Y.1.w 100 Y.1.J).1)))) (hW : WI Y'.1) (hf : F.2 (c + 131) = some (.inl (gC G 1, 80, .inr (.inl f)))) (h1 : c + 131 < F.1) (h3 : ¬ c + 131 = bv) (hB : 2500 * (n + 1) ≤ 2 ^ 20) (hK : LK G c Y' (2500 * (n + 1)) bv F) (hbe : be < 6) (hq : SQ Y.1 (2500 * n)) (hq2 : SQ (nxN Y.1 be) (2500 * n + be)) (t p : Int32) (ht : t = 0 ∨ (cntB (wld Y'.1.J Y'.1.cap Y'.1.w) Y'.1.J.length = 0 ∧ nI (dem Y'.1.J) = nI (dem Y.1.J) - r)) (hp : p = 0 ∨ (Y'.1 = nxN Y.1 be ∧ 1 ≤ be ∧ r = nI (nxF Y.1 be))) (l26 : Option Value) : AF G mL_law 15 (2535 * r9 + 5789 + 1853) (82834 * r9 + 334614 + 44438) LQ F 253 [some (.ref b), some (.ref c), some (.ref (c + 131)), some (.int (nI m)), some (.int (nI (5 * n))), some (.int (nI n)), some (.long (sumV Y.1)), none, some (.int (nI Y.2.2.length)), some (.int (nI kd)), some (.int (nI be)), some (.int (nI (dem Y.1.J))), some (.int (nI (dem (nxN Y.1 be).J))), some (.int (nI (btq Y.1))), some (.int (nI Y.1.bt)), some (.int (nI Y.1.E.length)), some (.long (nL Y.1.pum + nL Y.1.sht)), none, some (.int (ovl Y.1 be)), some (.long (nL Y.1.sht)), none, some (.long (nL (sumN (fun i => dem (nxN Y.1 (i + 1)).J) be))), none, some (.int (r)), some (.int (p)), some (.int (t)), l26] [] := by
  obtain ⟨F9, eF9⟩ : ∃ F9, F9 = F := ⟨_, rfl⟩
  obtain ⟨bv9, eb9⟩ : ∃ z, z = bv := ⟨_, rfl⟩
  have hX : XF c bv9 bv F9 F := by rw [eF9, eb9]; exact XF.rf
  rw [← eF9] at hf h1
  rw [← eb9] at h3
  have go : ∀ F bv bc bs, 2535 * r9 + 5789 + 1853 ≤ bc → 82834 * r9 + 334614 + 44438 ≤ bs → LK G c Y' (2500 * (n + 1)) bv F → F.2 (c + 131) = some (.inl (gC G 1, 80, .inr (.inl f))) → c + 131 < F.1 → ¬ c + 131 = bv → AF G mL_law 15 bc bs LQ F 364 [some (.ref b), some (.ref c), some (.ref (c + 131)), some (.int (nI m)), some (.int (nI (5 * n))), some (.int (nI n)), some (.long (sumV Y.1)), none, some (.int (nI Y.2.2.length)), some (.int (nI kd)), some (.int (nI be)), some (.int (nI (dem Y.1.J))), some (.int (nI (dem (nxN Y.1 be).J))), some (.int (nI (btq Y.1))), some (.int (nI Y.1.bt)), some (.int (nI Y.1.E.length)), some (.long (nL Y.1.pum + nL Y.1.sht)), none, some (.int (ovl Y.1 be)), some (.long (nL Y.1.sht)), none, some (.long (nL (sumN (fun i => dem (nxN Y.1 (i + 1)).J) be))), none, some (.int (r)), some (.int (p)), some (.int (t)), l26] [] := by
    intro F bv bc bs z1 z2 hK hf h1 h3
    refine AF.less (d' := 15) (bc' := 2535 * r9 + 5789 + 1853) (bs' := 82834 * r9 + 334614 + 44438) ?_ (Nat.le_refl _) z1 z2
    refine AF.iconst (1) dL_law_364 (by decide) ?_
    refine AF.goto 369 dL_law_365 (by decide) ?_
    refine AF.istore dL_law_369 (by decide) ?_
    exact W_371 ha hs hL hn ih hm hH hD hW hf h1 h3 hB hK t p ht 
  refine AF.iload dL_law_253 rfl ?_
  refine AF.if_eq 364 dL_law_255 (by decide) (fun c1 => ?_) (fun c1 => ?_)
  · exact go F bv _ _ (Nat.le_refl _) (Nat.le_refl _) hK (by rw [← eF9]; exact hf) (by rw [← eF9]; exact h1) (by rw [← eb9]; exact h3)
  · rcases hp with hp | ⟨hp1, hp2, hp3⟩
    · exact absurd hp c1
    · have b3 := hq.2.2.2.2.2
      have hE := nxN_E' (σ := Y.1) be
      have hem := nxN_emp (σ := Y.1) hp2
      have hwa := nxN_wat (σ := Y.1) be
      have hsh := nxN_sht (σ := Y.1) be
      obtain ⟨-, -, -, -, i5, i6, i7, i8⟩ := id hq.1
      obtain ⟨-, -, -, -, j5, j6, j7, j8⟩ := id hq2.1
      have hbq : btq Y.1 < 2 ^ 31 := by
        unfold btq
        split
        · omega
        · have := mx1_le (g := bte Y.1) (b := 2 ^ 23) (by decide) Y.1.E.length (fun j hj => by
            have := (hq.1.2.2.2.1 j hj).2
            have : fln (fg Y.1.Fg (en Y.1.E j).1) ≤ 20 := fln_le (fun k hk => (hq.1.2.2.1 _ k hk).1)
            unfold bte; omega)
          omega
      have fin : ∀ F bv, LK G c Y' (2500 * (n + 1)) bv F → XF c bv9 bv F9 F → AF G mL_law 15 (2535 * r9 + 5789 + 1853) (82834 * r9 + 334614 + 44438) LQ F 364 [some (.ref b), some (.ref c), some (.ref (c + 131)), some (.int (nI m)), some (.int (nI (5 * n))), some (.int (nI n)), some (.long (sumV Y.1)), none, some (.int (nI Y.2.2.length)), some (.int (nI kd)), some (.int (nI be)), some (.int (nI (dem Y.1.J))), some (.int (nI (dem (nxN Y.1 be).J))), some (.int (nI (btq Y.1))), some (.int (nI Y.1.bt)), some (.int (nI Y.1.E.length)), some (.long (nL Y.1.pum + nL Y.1.sht)), none, some (.int (ovl Y.1 be)), some (.long (nL Y.1.sht)), none, some (.long (nL (sumN (fun i => dem (nxN Y.1 (i + 1)).J) be))), none, some (.int (r)), some (.int (p)), some (.int (t)), l26] [] := fun F bv hK hX => go F bv _ _ (Nat.le_refl _) (Nat.le_refl _) hK ((hX.at h1 (Nat.le_refl _) h3).trans hf) (Nat.lt_of_lt_of_le h1 hX.1) (hX.bq h1 h3)
      -- at 336: the shortage
      have k3 : ∀ F bv, LK G c Y' (2500 * (n + 1)) bv F → XF c bv9 bv F9 F → AF G mL_law 15 (2535 * r9 + 5789 + 1853) (82834 * r9 + 334614 + 44438) LQ F 336 [some (.ref b), some (.ref c), some (.ref (c + 131)), some (.int (nI m)), some (.int (nI (5 * n))), some (.int (nI n)), some (.long (sumV Y.1)), none, some (.int (nI Y.2.2.length)), some (.int (nI kd)), some (.int (nI be)), some (.int (nI (dem Y.1.J))), some (.int (nI (dem (nxN Y.1 be).J))), some (.int (nI (btq Y.1))), some (.int (nI Y.1.bt)), some (.int (nI Y.1.E.length)), some (.long (nL Y.1.pum + nL Y.1.sht)), none, some (.int (ovl Y.1 be)), some (.long (nL Y.1.sht)), none, some (.long (nL (sumN (fun i => dem (nxN Y.1 (i + 1)).J) be))), none, some (.int (r)), some (.int (p)), some (.int (t)), l26] [] := by
        intro F bv hK hX
        refine AF.aload_n dL_law_336 rfl ?_
        refine AF.lv (mc' := 0) (ms' := 0) (bc := 2535 * r9 + 5789 + 1853) (bs := 82834 * r9 + 334614 + 44438) dL_law_337 kv_L_210 (Y_shortage hK) hK.c0.choose_spec rfl hX rfl rfl (Nat.le_of_ble_eq_true rfl) (by decide) rfl (fun F bv hK hX => ?_)
        rw [hp1]
        refine AF.lload dL_law_340 rfl ?_
        refine AF.lcmp dL_law_342 ?_
        refine AF.if_le 350 dL_law_343 (by decide) (fun c2 => ?_) (fun c2 => ?_)
        · have hno : ¬ (∃ i, i < be ∧ fovP Y.1 i = true) := fun z => by
            have h5 := hsh.2.mpr z
            have c2 := (lg_cmp_le _ _).mp c2
            exact absurd ((nL_lt (by omega) (by omega)).mpr h5) (Int64.not_lt.mpr c2)
          have eo : ovl Y.1 be = -7500 := by
            unfold ovl
            cases e : fov Y.1 be with
            | none => rfl
            | some k => exact absurd (fov_iff.mp (by rw [e]; rfl)) hno
          rw [eo]
          refine AF.iconst (0) dL_law_350 (by decide) ?_
          refine AF.iload dL_law_351 rfl ?_
          refine AF.if_le 360 dL_law_353 (by decide) (fun c3 => ?_) (fun c3 => ?_)
          · refine AF.iconst (0) dL_law_360 (by decide) ?_
            refine AF.icmp_ne 368 dL_law_361 (by decide) (fun c4 => ?_) (fun c4 => ?_)
            · exact absurd rfl c4
            · rw [← eo]
              exact fin F bv hK hX
          · exact absurd (by decide) c3
        · have hyes : ∃ i, i < be ∧ fovP Y.1 i = true := by
            apply hsh.2.mp
            have c2 : nL Y.1.sht < nL (nxN Y.1 be).sht := Int64.not_le.mp (fun z => c2 ((lg_cmp_le _ _).mpr z))
            exact (nL_lt (by omega) (by omega)).mp c2
          obtain ⟨k, hk⟩ := Option.isSome_iff_exists.mp (fov_iff.mpr hyes)
          have hkb := (fnd_spec hk).1
          have eo : ovl Y.1 be = nI (k + 1) := by unfold ovl; rw [hk]
          rw [eo]
          refine AF.iconst (1) dL_law_346 (by decide) ?_
          refine AF.goto 351 dL_law_347 (by decide) ?_
          refine AF.iload dL_law_351 rfl ?_
          refine AF.if_le 360 dL_law_353 (by decide) (fun c3 => ?_) (fun c3 => ?_)
          · exact absurd c3 (nI_nle (by omega) (by omega))
          · refine AF.iconst (1) dL_law_356 (by decide) ?_
            refine AF.goto 361 dL_law_357 (by decide) ?_
            refine AF.icmp_ne 368 dL_law_361 (by decide) (fun c4 => ?_) (fun c4 => ?_)
            · exact absurd rfl c4
            · rw [← eo]
              exact fin F bv hK hX
      -- at 318: the water
      have k2 : ∀ F bv, LK G c Y' (2500 * (n + 1)) bv F → XF c bv9 bv F9 F → AF G mL_law 15 (2535 * r9 + 5789 + 1853) (82834 * r9 + 334614 + 44438) LQ F 318 [some (.ref b), some (.ref c), some (.ref (c + 131)), some (.int (nI m)), some (.int (nI (5 * n))), some (.int (nI n)), some (.long (sumV Y.1)), none, some (.int (nI Y.2.2.length)), some (.int (nI kd)), some (.int (nI be)), some (.int (nI (dem Y.1.J))), some (.int (nI (dem (nxN Y.1 be).J))), some (.int (nI (btq Y.1))), some (.int (nI Y.1.bt)), some (.int (nI Y.1.E.length)), some (.long (nL Y.1.pum + nL Y.1.sht)), none, some (.int (ovl Y.1 be)), some (.long (nL Y.1.sht)), none, some (.long (nL (sumN (fun i => dem (nxN Y.1 (i + 1)).J) be))), none, some (.int (r)), some (.int (p)), some (.int (t)), l26] [] := by
        intro F bv hK hX
        refine AF.aload_n dL_law_318 rfl ?_
        refine AF.lv (mc' := 0) (ms' := 0) (bc := 2535 * r9 + 5789 + 1853) (bs := 82834 * r9 + 334614 + 44438) dL_law_319 kv_L_206 (Y_pumped hK) hK.c0.choose_spec rfl hX rfl rfl (Nat.le_of_ble_eq_true rfl) (by decide) rfl (fun F bv hK hX => ?_)
        refine AF.aload_n dL_law_322 rfl ?_
        refine AF.lv (mc' := 0) (ms' := 0) (bc := 2535 * r9 + 5789 + 1853) (bs := 82834 * r9 + 334614 + 44438) dL_law_323 kv_L_210 (Y_shortage hK) hK.c0.choose_spec rfl hX rfl rfl (Nat.le_of_ble_eq_true rfl) (by decide) rfl (fun F bv hK hX => ?_)
        rw [hp1]
        refine AF.ladd dL_law_326 ?_
        refine AF.lload dL_law_327 rfl ?_
        refine AF.lload dL_law_329 rfl ?_
        refine AF.ladd dL_law_331 ?_
        refine AF.lcmp dL_law_332 ?_
        refine AF.if_ne 368 dL_law_333 (by decide) (fun c2 => ?_) (fun c2 => ?_)
        · exact absurd ((lg_cmp_eq _ _).mpr (by rw [nL_a, nL_a, nL_a, hwa])) c2
        · exact k3 F bv hK hX
      -- at 315: is it empty
      have k1 : ∀ F bv (x : Int32), x = (if (nxN Y.1 be).E.length = 0 then 1 else 0) → LK G c Y' (2500 * (n + 1)) bv F → XF c bv9 bv F9 F → AF G mL_law 15 (2535 * r9 + 5789 + 1853) (82834 * r9 + 334614 + 44438) LQ F 303 [some (.ref b), some (.ref c), some (.ref (c + 131)), some (.int (nI m)), some (.int (nI (5 * n))), some (.int (nI n)), some (.long (sumV Y.1)), none, some (.int (nI Y.2.2.length)), some (.int (nI kd)), some (.int (nI be)), some (.int (nI (dem Y.1.J))), some (.int (nI (dem (nxN Y.1 be).J))), some (.int (nI (btq Y.1))), some (.int (nI Y.1.bt)), some (.int (nI Y.1.E.length)), some (.long (nL Y.1.pum + nL Y.1.sht)), none, some (.int (ovl Y.1 be)), some (.long (nL Y.1.sht)), none, some (.long (nL (sumN (fun i => dem (nxN Y.1 (i + 1)).J) be))), none, some (.int (r)), some (.int (p)), some (.int (t)), l26] [.int x] := by
        intro F bv x hx hK hX
        refine AF.iload dL_law_303 rfl ?_
        refine AF.iload dL_law_305 rfl ?_
        refine AF.icmp_lt 314 dL_law_307 (by decide) (fun c2 => ?_) (fun c2 => ?_)
        · rw [nI_ltI (by omega) hbq] at c2
          refine AF.iconst (0) dL_law_314 (by decide) ?_
          rw [if_neg (fun z => by have := hem.mp z; omega)] at hx
          refine AF.icmp_ne 368 dL_law_315 (by decide) (fun c3 => ?_) (fun c3 => ?_)
          · exact absurd hx c3
          · exact k2 F bv hK hX
        · rw [nI_ltI (by omega) hbq] at c2
          refine AF.iconst (1) dL_law_310 (by decide) ?_
          refine AF.goto 315 dL_law_311 (by decide) ?_
          rw [if_pos (hem.mpr (by omega))] at hx
          refine AF.icmp_ne 368 dL_law_315 (by decide) (fun c3 => ?_) (fun c3 => ?_)
          · exact absurd hx c3
          · exact k2 F bv hK hX
      refine AF.aload_n dL_law_258 rfl ?_
      refine AF.lv (mc' := 0) (ms' := 0) (bc := 2535 * r9 + 5789 + 1853) (bs := 82834 * r9 + 334614 + 44438) dL_law_259 kv_L_200 (Y_beat hK) hK.c0.choose_spec rfl hX rfl rfl (Nat.le_of_ble_eq_true rfl) (by decide) rfl (fun F bv hK hX => ?_)
      rw [hp1, nxN_b]
      refine AF.iload dL_law_262 rfl ?_
      refine AF.iload dL_law_264 rfl ?_
      refine AF.iadd dL_law_266 ?_
      rw [nI_add]
      refine AF.icmp_ne 368 dL_law_267 (by decide) (fun c2 => ?_) (fun c2 => ?_)
      · exact absurd rfl c2
      · refine AF.aload_n dL_law_270 rfl ?_
        refine AF.lv (mc' := 0) (ms' := 0) (bc := 2535 * r9 + 5789 + 1853) (bs := 82834 * r9 + 334614 + 44438) dL_law_271 kv_L_192 (Y_demand hK) hK.c0.choose_spec rfl hX rfl rfl (Nat.le_of_ble_eq_true rfl) (by decide) rfl (fun F bv hK hX => ?_)
        rw [hp1]
        refine AF.iload dL_law_274 rfl ?_
        refine AF.icmp_ne 368 dL_law_276 (by decide) (fun c3 => ?_) (fun c3 => ?_)
        · exact absurd rfl c3
        · refine AF.aload_n dL_law_279 rfl ?_
          refine AF.lv (mc' := 0) (ms' := 0) (bc := 2535 * r9 + 5789 + 1853) (bs := 82834 * r9 + 334614 + 44438) dL_law_280 kv_L_203 (Y_queueLength hK) hK.c0.choose_spec rfl hX rfl rfl (Nat.le_of_ble_eq_true rfl) (by decide) rfl (fun F bv hK hX => ?_)
          rw [hp1, hp3]
          refine AF.iload dL_law_283 rfl ?_
          refine AF.iload dL_law_285 rfl ?_
          refine AF.isub dL_law_287 ?_
          rw [pk_sub (by omega)]
          refine AF.icmp_ne 368 dL_law_288 (by decide) (fun c4 => ?_) (fun c4 => ?_)
          · exact absurd (congrArg nI (by omega)) c4
          · rw [← hp3]
            refine AF.aload_n dL_law_291 rfl ?_
            refine AF.lv (mc' := 0) (ms' := 0) (bc := 2535 * r9 + 5789 + 1853) (bs := 82834 * r9 + 334614 + 44438) dL_law_292 kv_L_203 (Y_queueLength hK) hK.c0.choose_spec rfl hX rfl rfl (Nat.le_of_ble_eq_true rfl) (by decide) rfl (fun F bv hK hX => ?_)
            rw [hp1]
            refine AF.if_ne 302 dL_law_295 (by decide) (fun c5 => ?_) (fun c5 => ?_)
            · refine AF.iconst (0) dL_law_302 (by decide) ?_
              exact k1 F bv 0 (by rw [if_neg (fun z => c5 (by rw [z]; rfl))]) hK hX
            · have c5 : nI (nxN Y.1 be).E.length = nI 0 := c5
              rw [nI_eq (by omega) (by omega)] at c5
              refine AF.iconst (1) dL_law_298 (by decide) ?_
              refine AF.goto 303 dL_law_299 (by decide) ?_
              exact k1 F bv 1 (by rw [if_pos c5]) hK hX
set_option maxRecDepth 100000 in
set_option maxHeartbeats 8000000 in
theorem W_203 (ha : gN G ≤ c) (hs : SCR G b L xs) (hL : L ≤ 260) {n r9 : Nat} (hn : n < 58) (ih : ∀ F bv Y hist f m bc bs l6 l7 l8 l9 l10 l11 l12 l13 l14 l15 l16 l17 l18 l19 l20 l21 l22 l23 l24 l25 l26, m ≤ n + 1 → 2535 * r9 + 5789 ≤ bc → 82834 * r9 + 334614 ≤ bs → LH G c Y (2500 * (n + 1)) bv F hist f m → AF G mL_law 15 bc bs LQ F 28 [some (.ref b), some (.ref c), some (.ref (c + 131)), some (.int (nI m)), some (.int (nI (5 * (n + 1)))), some (.int (nI (n + 1))), l6, l7, l8, l9, l10, l11, l12, l13, l14, l15, l16, l17, l18, l19, l20, l21, l22, l23, l24, l25, l26] []) {Y Y' : YS} {hist : Nat → Sg} {f : Nat → Int64} {m kd be bv : Nat} {r : Int32} {F : AH} (hm : m ≤ n) (hH : HI hist f m Y) (hD : ((r ≤ -7400 ∧ (kd < 14 ∨ 15 < kd) ∧ Y' = Y) ∨ (-7000 < r ∧ ∃ σ, Y' = (σ, Y.2.1, pushH Y.2.2 Y.1) ∧ (34 < kd → kd < 41 → σ = nxN Y.1 be ∧ 1 ≤ be ∧ r = nI (nxF Y.1 be)) ∧ (13 < kd → kd < 16 → σ = aTrm Y.1 ∧ r = nI (trm Y.1.cap Y.1.w 100 Y.1.J).1)))) (hW : WI Y'.1) (hf : F.2 (c + 131) = some (.inl (gC G 1, 80, .inr (.inl f)))) (h1 : c + 131 < F.1) (h3 : ¬ c + 131 = bv) (hB : 2500 * (n + 1) ≤ 2 ^ 20) (hK : LK G c Y' (2500 * (n + 1)) bv F) (hbe : be < 6) (hkd : kd < 44) (hq : SQ Y.1 (2500 * n)) (hq2 : SQ (nxN Y.1 be) (2500 * n + be)) (l24 l25 l26 : Option Value) : AF G mL_law 15 (2535 * r9 + 5789 + 1853) (82834 * r9 + 334614 + 44438) LQ F 203 [some (.ref b), some (.ref c), some (.ref (c + 131)), some (.int (nI m)), some (.int (nI (5 * n))), some (.int (nI n)), some (.long (sumV Y.1)), none, some (.int (nI Y.2.2.length)), some (.int (nI kd)), some (.int (nI be)), some (.int (nI (dem Y.1.J))), some (.int (nI (dem (nxN Y.1 be).J))), some (.int (nI (btq Y.1))), some (.int (nI Y.1.bt)), some (.int (nI Y.1.E.length)), some (.long (nL Y.1.pum + nL Y.1.sht)), none, some (.int (ovl Y.1 be)), some (.long (nL Y.1.sht)), none, some (.long (nL (sumN (fun i => dem (nxN Y.1 (i + 1)).J) be))), none, some (.int (r)), l24, l25, l26] [] := by
  have g2 : ∀ p : Int32, (p = 0 ∨ (Y'.1 = nxN Y.1 be ∧ 1 ≤ be ∧ r = nI (nxF Y.1 be))) → AF G mL_law 15 (2535 * r9 + 5789 + 1853) (82834 * r9 + 334614 + 44438) LQ F 232 [some (.ref b), some (.ref c), some (.ref (c + 131)), some (.int (nI m)), some (.int (nI (5 * n))), some (.int (nI n)), some (.long (sumV Y.1)), none, some (.int (nI Y.2.2.length)), some (.int (nI kd)), some (.int (nI be)), some (.int (nI (dem Y.1.J))), some (.int (nI (dem (nxN Y.1 be).J))), some (.int (nI (btq Y.1))), some (.int (nI Y.1.bt)), some (.int (nI Y.1.E.length)), some (.long (nL Y.1.pum + nL Y.1.sht)), none, some (.int (ovl Y.1 be)), some (.long (nL Y.1.sht)), none, some (.long (nL (sumN (fun i => dem (nxN Y.1 (i + 1)).J) be))), none, some (.int (r)), some (.int (p)), l25, l26] [] := by
    intro p hp
    have no : ∀ bc bs, 2535 * r9 + 5789 + 1853 ≤ bc → 82834 * r9 + 334614 + 44438 ≤ bs → AF G mL_law 15 bc bs LQ F 250 [some (.ref b), some (.ref c), some (.ref (c + 131)), some (.int (nI m)), some (.int (nI (5 * n))), some (.int (nI n)), some (.long (sumV Y.1)), none, some (.int (nI Y.2.2.length)), some (.int (nI kd)), some (.int (nI be)), some (.int (nI (dem Y.1.J))), some (.int (nI (dem (nxN Y.1 be).J))), some (.int (nI (btq Y.1))), some (.int (nI Y.1.bt)), some (.int (nI Y.1.E.length)), some (.long (nL Y.1.pum + nL Y.1.sht)), none, some (.int (ovl Y.1 be)), some (.long (nL Y.1.sht)), none, some (.long (nL (sumN (fun i => dem (nxN Y.1 (i + 1)).J) be))), none, some (.int (r)), some (.int (p)), l25, l26] [] := by
      intro bc bs z1 z2
      refine AF.less (d' := 15) (bc' := 2535 * r9 + 5789 + 1853) (bs' := 82834 * r9 + 334614 + 44438) ?_ (Nat.le_refl _) z1 z2
      refine AF.iconst (0) dL_law_250 (by decide) ?_
      refine AF.istore dL_law_251 (by decide) ?_
      exact W_253 ha hs hL hn ih hm hH hD hW hf h1 h3 hB hK hbe hq hq2 0 p (Or.inl rfl) hp _
    refine AF.iload dL_law_232 rfl ?_
    refine AF.bipush (nI 13) dL_law_234 (by decide) ?_
    refine AF.icmp_le 250 dL_law_236 (by decide) (fun c1 => ?_) (fun c1 => ?_)
    · exact no _ _ (Nat.le_refl _) (Nat.le_refl _)
    · rw [nI_leI (by omega) (by omega)] at c1
      refine AF.iload dL_law_239 rfl ?_
      refine AF.bipush (nI 16) dL_law_241 (by decide) ?_
      refine AF.icmp_ge 250 dL_law_243 (by decide) (fun c2 => ?_) (fun c2 => ?_)
      · exact no _ _ (Nat.le_refl _) (Nat.le_refl _)
      · rw [nI_leI (by omega) (by omega)] at c2
        refine AF.iconst (1) dL_law_246 (by decide) ?_
        refine AF.goto 251 dL_law_247 (by decide) ?_
        refine AF.istore dL_law_251 (by decide) ?_
        refine W_253 ha hs hL hn ih hm hH hD hW hf h1 h3 hB hK hbe hq hq2 1 p (Or.inr ?_) hp _
        rcases hD with ⟨-, hr, -⟩ | ⟨-, σ, rfl, -, hr⟩
        · omega
        · obtain ⟨rfl, rfl⟩ := hr (by omega) (by omega)
          obtain ⟨z1, z2⟩ := aTrm_ok hq
          exact ⟨z1, by rw [pk_sub (by omega)]; exact congrArg nI (by show dem (aTrm Y.1).J = _; omega)⟩
  have no : ∀ bc bs, 2535 * r9 + 5789 + 1853 ≤ bc → 82834 * r9 + 334614 + 44438 ≤ bs → AF G mL_law 15 bc bs LQ F 229 [some (.ref b), some (.ref c), some (.ref (c + 131)), some (.int (nI m)), some (.int (nI (5 * n))), some (.int (nI n)), some (.long (sumV Y.1)), none, some (.int (nI Y.2.2.length)), some (.int (nI kd)), some (.int (nI be)), some (.int (nI (dem Y.1.J))), some (.int (nI (dem (nxN Y.1 be).J))), some (.int (nI (btq Y.1))), some (.int (nI Y.1.bt)), some (.int (nI Y.1.E.length)), some (.long (nL Y.1.pum + nL Y.1.sht)), none, some (.int (ovl Y.1 be)), some (.long (nL Y.1.sht)), none, some (.long (nL (sumN (fun i => dem (nxN Y.1 (i + 1)).J) be))), none, some (.int (r)), l24, l25, l26] [] := by
    intro bc bs z1 z2
    refine AF.less (d' := 15) (bc' := 2535 * r9 + 5789 + 1853) (bs' := 82834 * r9 + 334614 + 44438) ?_ (Nat.le_refl _) z1 z2
    refine AF.iconst (0) dL_law_229 (by decide) ?_
    refine AF.istore dL_law_230 (by decide) ?_
    exact g2 0 (Or.inl rfl)
  refine AF.iload dL_law_203 rfl ?_
  refine AF.bipush (nI 34) dL_law_205 (by decide) ?_
  refine AF.icmp_le 229 dL_law_207 (by decide) (fun c1 => ?_) (fun c1 => ?_)
  · exact no _ _ (Nat.le_refl _) (Nat.le_refl _)
  · rw [nI_leI (by omega) (by omega)] at c1
    refine AF.iload dL_law_210 rfl ?_
    refine AF.bipush (nI 41) dL_law_212 (by decide) ?_
    refine AF.icmp_ge 229 dL_law_214 (by decide) (fun c2 => ?_) (fun c2 => ?_)
    · exact no _ _ (Nat.le_refl _) (Nat.le_refl _)
    · rw [nI_leI (by omega) (by omega)] at c2
      refine AF.iload dL_law_217 rfl ?_
      refine AF.sipush (-7000) dL_law_219 (by decide) ?_
      refine AF.icmp_le 229 dL_law_222 (by decide) (fun c3 => ?_) (fun c3 => ?_)
      · exact no _ _ (Nat.le_refl _) (Nat.le_refl _)
      · refine AF.iconst (1) dL_law_225 (by decide) ?_
        refine AF.goto 230 dL_law_226 (by decide) ?_
        refine AF.istore dL_law_230 (by decide) ?_
        refine g2 1 (Or.inr ?_)
        rcases hD with ⟨hr, -, -⟩ | ⟨-, σ, rfl, hr, -⟩
        · exact absurd (Int32.le_trans hr (by decide)) c3
        · exact hr (by omega) (by omega)
end

