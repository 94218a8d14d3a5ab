/-! The law's wrappers: a call of the show, its answer in a row of one, what it throws by number. -/
/-- only the show and the row o are written; what is made is new -/
def XO (c bv bv' o : Nat) (F F' : AH) : Prop := F.1 ≤ F'.1 ∧ (bv' = bv ∨ F.1 ≤ bv') ∧ ∀ q, q < F.1 → (q < c ∨ c + 131 ≤ q) → ¬ q = bv → ¬ q = o → F'.2 q = F.2 q
def JL (G : GA) (z : Int64) (f : Nat → Int64) : va_E := .inl (gC G 1, 1, .inr (.inl f))
def WQ (G : GA) (c bv o : Nat) (X' : XS) (p : Nat) (z : Int64) (F0 : AH) : AR → AH → Prop := fun r F' => r = .inl (some (.int (nI p))) ∧ ∃ bv', CX G F' c bv' X' ∧ XO c bv bv' o F0 F' ∧ ∃ f, F'.2 o = some (.inl (gC G 1, 1, .inr (.inl f))) ∧ (p = 0 → f 0 = z)
def WQD (G : GA) (c bv o : Nat) (X' : XS) (p : Nat) (z : UInt64) (F0 : AH) : AR → AH → Prop := fun r F' => r = .inl (some (.int (nI p))) ∧ ∃ bv', CX G F' c bv' X' ∧ XO c bv bv' o F0 F' ∧ ∃ f, F'.2 o = some (.inl (gC G 3, 1, .inr (.inr (.inr (.inl f))))) ∧ (p = 0 → f 0 = z)
theorem rx_x {es : List String} {p : Nat} {v : Value} {E : String} (h : (.inr E : AR) = rx es p v) : ¬ p = 0 ∧ E = es.getD (p - 1) "" := by
  unfold rx at h
  by_cases q : p = 0
  · rw [if_pos q] at h; cases h
  · rw [if_neg q] at h; cases h; exact ⟨q, rfl⟩
theorem rx_n {es : List String} {p : Nat} {v : Value} {w : Option Value} (h : (.inl w : AR) = rx es p v) : p = 0 ∧ w = some v := by
  unfold rx at h
  by_cases q : p = 0
  · rw [if_pos q] at h; cases h; exact ⟨q, rfl⟩
  · rw [if_neg q] at h; cases h
theorem XF.o {c bv bv' o : Nat} {F F' : AH} (h : XF c bv bv' F F') : XO c bv bv' o F F' := ⟨h.1, h.2.1, fun q a b d _ => h.2.2 q a b d⟩
theorem XF.ow {c bv bv' o : Nat} {F F' F2 : AH} (h : XF c bv bv' F F') (e : F2.1 = F'.1) (k : ∀ q, ¬ q = o → F2.2 q = F'.2 q) : XO c bv bv' o F F2 := ⟨by rw [e]; exact h.1, h.2.1, fun q a b d g => (k q g).trans (h.2.2 q a b d)⟩
section
variable {G : GA} {F F' F2 : AH} {c bv bv' ob p : Nat} {X X' : XS} {es : List String} {v : Value} {E : String} {z : Int64} {zd : UInt64} {f : Nat → Int64} {fd : Nat → UInt64}
theorem WQ.x (h : XQ G c bv X' (rx es p v) F (.inr E) F') (ho : F.2 ob = some (.inl (gC G 1, 1, .inr (.inl f)))) (h1 : ob < F.1) (h2 : c + 131 ≤ ob) (h3 : ¬ ob = bv) : ∀ k, p = k → WQ G c bv ob X' p z F (.inl (some (.int (nI k)))) F' := by
  rintro k rfl
  obtain ⟨e, bv', hC, hx⟩ := h
  obtain ⟨e1, e2⟩ := rx_x e
  exact ⟨rfl, bv', hC, hx.o, f, (hx.2.2 ob h1 (Or.inr h2) h3).trans ho, fun q => absurd q e1⟩
theorem WQD.x (h : XQ G c bv X' (rx es p v) F (.inr E) F') (ho : F.2 ob = some (.inl (gC G 3, 1, .inr (.inr (.inr (.inl fd)))))) (h1 : ob < F.1) (h2 : c + 131 ≤ ob) (h3 : ¬ ob = bv) : ∀ k, p = k → WQD G c bv ob X' p zd F (.inl (some (.int (nI k)))) F' := by
  rintro k rfl
  obtain ⟨e, bv', hC, hx⟩ := h
  obtain ⟨e1, e2⟩ := rx_x e
  exact ⟨rfl, bv', hC, hx.o, fd, (hx.2.2 ob h1 (Or.inr h2) h3).trans ho, fun q => absurd q e1⟩
theorem WQ.n (hC : CX G F' c bv' X') (hx : XF c bv bv' F F') (hp : p = 0) (e9 : F2.1 = F'.1) (h9 : F2.2 ob = some (.inl (gC G 1, 1, .inr (.inl (vp_updL f 0 z))))) (o9 : ∀ q, ¬ q = ob → F2.2 q = F'.2 q) (h2 : c + 131 ≤ ob) (h3 : ¬ ob = bv') : WQ G c bv ob X' p z F (.inl (some (.int (nI 0)))) F2 := by
  subst hp
  exact ⟨rfl, bv', hC.kept (fun q _ _ => o9 q (by omega)) (o9 bv' (fun e => h3 e.symm)) (Nat.le_of_eq e9.symm), hx.ow e9 o9, _, h9, fun _ => by simp [vp_updL]⟩
theorem WQD.n (hC : CX G F' c bv' X') (hx : XF c bv bv' F F') (hp : p = 0) (e9 : F2.1 = F'.1) (h9 : F2.2 ob = some (.inl (gC G 3, 1, .inr (.inr (.inr (.inl (vf_upd fd 0 zd))))))) (o9 : ∀ q, ¬ q = ob → F2.2 q = F'.2 q) (h2 : c + 131 ≤ ob) (h3 : ¬ ob = bv') : WQD G c bv ob X' p zd F (.inl (some (.int (nI 0)))) F2 := by
  subst hp
  exact ⟨rfl, bv', hC.kept (fun q _ _ => o9 q (by omega)) (o9 bv' (fun e => h3 e.symm)) (Nat.le_of_eq e9.symm), hx.ow e9 o9, _, h9, fun _ => by simp [vf_upd]⟩
theorem exC_le {X : XS} : exC X ≤ 2 := by unfold exC; split; omega; split <;> omega
theorem hx_addJet_0 : HX mL_addJet 4 "java/lang/IllegalArgumentException" [] (0, 9, 12, 13) := ⟨⟨[(0, 9, 15, 15), (0, 9, 18, 17)], rfl⟩, fun z hz => absurd hz List.not_mem_nil, by decide +kernel, by decide, "java/lang/IllegalArgumentException", tb 460 (by decide +kernel), tb 568 (by decide +kernel)⟩
theorem hx_addJet_1 : HX mL_addJet 4 "java/lang/UnsupportedOperationException" [(0, 9, 12, 13)] (0, 9, 15, 15) := ⟨⟨[(0, 9, 18, 17)], rfl⟩, (fun z hz => by
    rcases (by simpa using hz : z = (0, 9, 12, 13)) with rfl
    · exact ⟨by decide, "java/lang/IllegalArgumentException", tb 460 (by decide +kernel), by decide +kernel⟩), by decide +kernel, by decide, "java/lang/UnsupportedOperationException", tb 461 (by decide +kernel), tb 584 (by decide +kernel)⟩
theorem hx_addJet_2 : HX mL_addJet 4 "java/lang/IllegalStateException" [(0, 9, 12, 13), (0, 9, 15, 15)] (0, 9, 18, 17) := ⟨⟨[], rfl⟩, (fun z hz => by
    rcases (by simpa using hz : z = (0, 9, 12, 13) ∨ z = (0, 9, 15, 15)) with rfl | rfl
    · exact ⟨by decide, "java/lang/IllegalArgumentException", tb 460 (by decide +kernel), by decide +kernel⟩
    · exact ⟨by decide, "java/lang/UnsupportedOperationException", tb 461 (by decide +kernel), by decide +kernel⟩), by decide +kernel, by decide, "java/lang/IllegalStateException", tb 462 (by decide +kernel), tb 600 (by decide +kernel)⟩
set_option maxRecDepth 100000 in
set_option maxHeartbeats 1000000 in
theorem L_addJet_ok {B o : Nat} {f : Nat → Int64} (hC : CX G F c bv X) (x : Int32) (ha : gN G ≤ c) (hI : SQ X.sg B) (ho : F.2 o = some (.inl (gC G 1, 1, .inr (.inl f)))) (h1 : o < F.1) (h2 : c + 131 ≤ o) (h3 : ¬ o = bv) (h4 : gN G ≤ o) : AC G mL_addJet 12 1 6 [.ref c, .int x, .ref o] F (WQ G c bv o (chX X (aJet X.sg x) (pAdd X.sg.J x - 1)) (pAdd X.sg.J x - 1) ((nI X.sg.J.length).toInt64) F) := by
  have hpr : (pAdd X.sg.J x - 1) ≤ 3 := by have := pAdd_v (J := X.sg.J) (x := x); omega
  have hK := X8_addJet_ok hC ha hI x
  obtain ⟨hn, hf, ⟨c0, -⟩, -⟩ := hC
  refine AC.ofH [some (.ref c), some (.int x), some (.ref o), none] rfl (by decide) (Nat.le_of_ble_eq_true rfl) rfl ?_
  refine AF.aload_n dL_addJet_0 rfl ?_
  refine AF.iconst (0) dL_addJet_1 (by decide) ?_
  refine AF.aload_n dL_addJet_2 rfl ?_
  refine AF.iload_n dL_addJet_3 rfl ?_
  refine AF.callVH (bc := 0) (bs := 0) (mc' := 1) (ms' := 6) dL_addJet_4 kv_L_7 hK c0 rfl rfl rfl (Nat.le_of_ble_eq_true rfl) (by decide) (fun E F' q => ?_) (fun v F' q => ?_)
  · obtain ⟨e1, e2⟩ := rx_x q.1
    have e3 := fun (z : Int64) => WQ.x (z := z) q ho h1 h2 h3
    rcases (by omega : (pAdd X.sg.J x - 1) = 1 ∨ (pAdd X.sg.J x - 1) = 2 ∨ (pAdd X.sg.J x - 1) = 3) with hp | hp | hp
    · rw [hp] at e2
      subst e2
      refine ⟨_, _, hx_addJet_0, fun q9 => ?_⟩
      refine AF.astore_n dL_addJet_12 (by decide) ?_
      refine AF.iconst (nI 1) dL_addJet_13 (by decide) ?_
      exact AF.ireturn dL_addJet_14 rfl (e3 _ _ hp)
    · rw [hp] at e2
      subst e2
      refine ⟨_, _, hx_addJet_1, fun q9 => ?_⟩
      refine AF.astore_n dL_addJet_15 (by decide) ?_
      refine AF.iconst (nI 2) dL_addJet_16 (by decide) ?_
      exact AF.ireturn dL_addJet_17 rfl (e3 _ _ hp)
    · rw [hp] at e2
      subst e2
      refine ⟨_, _, hx_addJet_2, fun q9 => ?_⟩
      refine AF.astore_n dL_addJet_18 (by decide) ?_
      refine AF.iconst (nI 3) dL_addJet_19 (by decide) ?_
      exact AF.ireturn dL_addJet_20 rfl (e3 _ _ hp)
  · obtain ⟨e1, bv2, hC2, hx⟩ := q
    obtain ⟨hp, rfl⟩ := rx_n e1
    have ho2 := (hx.2.2 o h1 (Or.inr h2) h3).trans ho
    have h5 : ¬ o = bv2 := by have := hx.2.1; omega
    refine AF.i2l dL_addJet_7 ?_
    refine AF.lastoreF 0 dL_addJet_8 ho2 h4 rfl (by omega) (by decide) ?_
    intro F2 e9 h9 o9
    refine AF.goto 21 dL_addJet_9 (by decide) ?_
    refine AF.iconst (nI 0) dL_addJet_21 (by decide) ?_
    exact AF.ireturn dL_addJet_22 rfl (WQ.n hC2 hx hp e9 h9 o9 h2 h5)
theorem hx_removeJet_0 : HX mL_removeJet 4 "java/lang/IndexOutOfBoundsException" [] (0, 9, 12, 22) := ⟨⟨[], rfl⟩, fun z hz => absurd hz List.not_mem_nil, by decide +kernel, by decide, "java/lang/IndexOutOfBoundsException", tb 621 (by decide +kernel), tb 496 (by decide +kernel)⟩
set_option maxRecDepth 100000 in
set_option maxHeartbeats 1000000 in
theorem L_removeJet_ok {B o : Nat} {f : Nat → Int64} (hC : CX G F c bv X) (x : Int32) (ha : gN G ≤ c) (hI : SQ X.sg B) (ho : F.2 o = some (.inl (gC G 1, 1, .inr (.inl f)))) (h1 : o < F.1) (h2 : c + 131 ≤ o) (h3 : ¬ o = bv) (h4 : gN G ≤ o) : AC G mL_removeJet 12 1 6 [.ref c, .int x, .ref o] F (WQ G c bv o (chX X (aRmJ X.sg x) (if hasB X.sg.J.length x = true then 0 else 1)) (if hasB X.sg.J.length x = true then 0 else 1) ((nI (sumN (rmC (cl x) X.sg.Fg) X.sg.Fg.length)).toInt64) F) := by
  have hpr : (if hasB X.sg.J.length x = true then 0 else 1) ≤ 1 := by split <;> omega
  have hK := X8_removeJet_ok hC ha hI x
  obtain ⟨hn, hf, ⟨c0, -⟩, -⟩ := hC
  refine AC.ofH [some (.ref c), some (.int x), some (.ref o), none] rfl (by decide) (Nat.le_of_ble_eq_true rfl) rfl ?_
  refine AF.aload_n dL_removeJet_0 rfl ?_
  refine AF.iconst (0) dL_removeJet_1 (by decide) ?_
  refine AF.aload_n dL_removeJet_2 rfl ?_
  refine AF.iload_n dL_removeJet_3 rfl ?_
  refine AF.callVH (bc := 0) (bs := 0) (mc' := 1) (ms' := 6) dL_removeJet_4 kv_L_19 hK c0 rfl rfl rfl (Nat.le_of_ble_eq_true rfl) (by decide) (fun E F' q => ?_) (fun v F' q => ?_)
  · obtain ⟨e1, e2⟩ := rx_x q.1
    have e3 := fun (z : Int64) => WQ.x (z := z) q ho h1 h2 h3
    rcases (by omega : (if hasB X.sg.J.length x = true then 0 else 1) = 1) with hp
    · rw [hp] at e2
      subst e2
      refine ⟨_, _, hx_removeJet_0, fun q9 => ?_⟩
      refine AF.astore_n dL_removeJet_12 (by decide) ?_
      refine AF.iconst (nI 1) dL_removeJet_13 (by decide) ?_
      exact AF.ireturn dL_removeJet_14 rfl (e3 _ _ hp)
  · obtain ⟨e1, bv2, hC2, hx⟩ := q
    obtain ⟨hp, rfl⟩ := rx_n e1
    have ho2 := (hx.2.2 o h1 (Or.inr h2) h3).trans ho
    have h5 : ¬ o = bv2 := by have := hx.2.1; omega
    refine AF.i2l dL_removeJet_7 ?_
    refine AF.lastoreF 0 dL_removeJet_8 ho2 h4 rfl (by omega) (by decide) ?_
    intro F2 e9 h9 o9
    refine AF.goto 15 dL_removeJet_9 (by decide) ?_
    refine AF.iconst (nI 0) dL_removeJet_15 (by decide) ?_
    exact AF.ireturn dL_removeJet_16 rfl (WQ.n hC2 hx hp e9 h9 o9 h2 h5)
theorem hx_setOpening_0 : HX mL_setOpening 5 "java/lang/IndexOutOfBoundsException" [] (0, 10, 13, 22) := ⟨⟨[(0, 10, 17, 13)], rfl⟩, fun z hz => absurd hz List.not_mem_nil, by decide +kernel, by decide, "java/lang/IndexOutOfBoundsException", tb 621 (by decide +kernel), tb 496 (by decide +kernel)⟩
theorem hx_setOpening_1 : HX mL_setOpening 5 "java/lang/IllegalArgumentException" [(0, 10, 13, 22)] (0, 10, 17, 13) := ⟨⟨[], rfl⟩, (fun z hz => by
    rcases (by simpa using hz : z = (0, 10, 13, 22)) with rfl
    · exact ⟨by decide, "java/lang/IndexOutOfBoundsException", tb 621 (by decide +kernel), by decide +kernel⟩), by decide +kernel, by decide, "java/lang/IllegalArgumentException", tb 460 (by decide +kernel), tb 568 (by decide +kernel)⟩
set_option maxRecDepth 100000 in
set_option maxHeartbeats 1000000 in
theorem L_setOpening_ok {B o : Nat} {f : Nat → Int64} (hC : CX G F c bv X) (x y : Int32) (ha : gN G ≤ c) (hI : SQ X.sg B) (ho : F.2 o = some (.inl (gC G 1, 1, .inr (.inl f)))) (h1 : o < F.1) (h2 : c + 131 ≤ o) (h3 : ¬ o = bv) (h4 : gN G ≤ o) : AC G mL_setOpening 12 1 6 [.ref c, .int x, .int y, .ref o] F (WQ G c bv o (chX X (aOpn X.sg x y) (pOpn X.sg.J.length x y)) (pOpn X.sg.J.length x y) ((nI (jo X.sg.J (cl x))).toInt64) F) := by
  have hpr : (pOpn X.sg.J.length x y) ≤ 2 := by have := pOpn_v (n := X.sg.J.length) (x := x) (y := y); omega
  have hK := X8_setOpening_ok hC ha hI x y
  obtain ⟨hn, hf, ⟨c0, -⟩, -⟩ := hC
  refine AC.ofH [some (.ref c), some (.int x), some (.int y), some (.ref o), none] rfl (by decide) (Nat.le_of_ble_eq_true rfl) rfl ?_
  refine AF.aload_n dL_setOpening_0 rfl ?_
  refine AF.iconst (0) dL_setOpening_1 (by decide) ?_
  refine AF.aload_n dL_setOpening_2 rfl ?_
  refine AF.iload_n dL_setOpening_3 rfl ?_
  refine AF.iload_n dL_setOpening_4 rfl ?_
  refine AF.callVH (bc := 0) (bs := 0) (mc' := 1) (ms' := 6) dL_setOpening_5 kv_L_24 hK c0 rfl rfl rfl (Nat.le_of_ble_eq_true rfl) (by decide) (fun E F' q => ?_) (fun v F' q => ?_)
  · obtain ⟨e1, e2⟩ := rx_x q.1
    have e3 := fun (z : Int64) => WQ.x (z := z) q ho h1 h2 h3
    rcases (by omega : (pOpn X.sg.J.length x y) = 1 ∨ (pOpn X.sg.J.length x y) = 2) with hp | hp
    · rw [hp] at e2
      subst e2
      refine ⟨_, _, hx_setOpening_0, fun q9 => ?_⟩
      refine AF.astore dL_setOpening_13 (by decide) ?_
      refine AF.iconst (nI 1) dL_setOpening_15 (by decide) ?_
      exact AF.ireturn dL_setOpening_16 rfl (e3 _ _ hp)
    · rw [hp] at e2
      subst e2
      refine ⟨_, _, hx_setOpening_1, fun q9 => ?_⟩
      refine AF.astore dL_setOpening_17 (by decide) ?_
      refine AF.iconst (nI 2) dL_setOpening_19 (by decide) ?_
      exact AF.ireturn dL_setOpening_20 rfl (e3 _ _ hp)
  · obtain ⟨e1, bv2, hC2, hx⟩ := q
    obtain ⟨hp, rfl⟩ := rx_n e1
    have ho2 := (hx.2.2 o h1 (Or.inr h2) h3).trans ho
    have h5 : ¬ o = bv2 := by have := hx.2.1; omega
    refine AF.i2l dL_setOpening_8 ?_
    refine AF.lastoreF 0 dL_setOpening_9 ho2 h4 rfl (by omega) (by decide) ?_
    intro F2 e9 h9 o9
    refine AF.goto 21 dL_setOpening_10 (by decide) ?_
    refine AF.iconst (nI 0) dL_setOpening_21 (by decide) ?_
    exact AF.ireturn dL_setOpening_22 rfl (WQ.n hC2 hx hp e9 h9 o9 h2 h5)
theorem hx_position_0 : HX mL_position 4 "java/lang/IndexOutOfBoundsException" [] (0, 9, 12, 22) := ⟨⟨[], rfl⟩, fun z hz => absurd hz List.not_mem_nil, by decide +kernel, by decide, "java/lang/IndexOutOfBoundsException", tb 621 (by decide +kernel), tb 496 (by decide +kernel)⟩
set_option maxRecDepth 100000 in
set_option maxHeartbeats 1000000 in
theorem L_position_ok {B o : Nat} {f : Nat → Int64} (hC : CX G F c bv X) (x : Int32) (ho : F.2 o = some (.inl (gC G 1, 1, .inr (.inl f)))) (h1 : o < F.1) (h2 : c + 131 ≤ o) (h3 : ¬ o = bv) (h4 : gN G ≤ o) : AC G mL_position 12 1 6 [.ref c, .int x, .ref o] F (WQ G c bv o X (if hasB X.sg.J.length x = true then 0 else 1) ((nI (jp X.sg.J (cl x))).toInt64) F) := by
  have hpr : (if hasB X.sg.J.length x = true then 0 else 1) ≤ 1 := by split <;> omega
  have hK := X8_position_ok hC x
  obtain ⟨hn, hf, ⟨c0, -⟩, -⟩ := hC
  refine AC.ofH [some (.ref c), some (.int x), some (.ref o), none] rfl (by decide) (Nat.le_of_ble_eq_true rfl) rfl ?_
  refine AF.aload_n dL_position_0 rfl ?_
  refine AF.iconst (0) dL_position_1 (by decide) ?_
  refine AF.aload_n dL_position_2 rfl ?_
  refine AF.iload_n dL_position_3 rfl ?_
  refine AF.callVH (bc := 0) (bs := 0) (mc' := 1) (ms' := 6) dL_position_4 kv_L_28 hK c0 rfl rfl rfl (Nat.le_of_ble_eq_true rfl) (by decide) (fun E F' q => ?_) (fun v F' q => ?_)
  · obtain ⟨e1, e2⟩ := rx_x q.1
    have e3 := fun (z : Int64) => WQ.x (z := z) q ho h1 h2 h3
    rcases (by omega : (if hasB X.sg.J.length x = true then 0 else 1) = 1) with hp
    · rw [hp] at e2
      subst e2
      refine ⟨_, _, hx_position_0, fun q9 => ?_⟩
      refine AF.astore_n dL_position_12 (by decide) ?_
      refine AF.iconst (nI 1) dL_position_13 (by decide) ?_
      exact AF.ireturn dL_position_14 rfl (e3 _ _ hp)
  · obtain ⟨e1, bv2, hC2, hx⟩ := q
    obtain ⟨hp, rfl⟩ := rx_n e1
    have ho2 := (hx.2.2 o h1 (Or.inr h2) h3).trans ho
    have h5 : ¬ o = bv2 := by have := hx.2.1; omega
    refine AF.i2l dL_position_7 ?_
    refine AF.lastoreF 0 dL_position_8 ho2 h4 rfl (by omega) (by decide) ?_
    intro F2 e9 h9 o9
    refine AF.goto 15 dL_position_9 (by decide) ?_
    refine AF.iconst (nI 0) dL_position_15 (by decide) ?_
    exact AF.ireturn dL_position_16 rfl (WQ.n hC2 hx hp e9 h9 o9 h2 h5)
theorem hx_opening_0 : HX mL_opening 4 "java/lang/IndexOutOfBoundsException" [] (0, 9, 12, 22) := ⟨⟨[], rfl⟩, fun z hz => absurd hz List.not_mem_nil, by decide +kernel, by decide, "java/lang/IndexOutOfBoundsException", tb 621 (by decide +kernel), tb 496 (by decide +kernel)⟩
set_option maxRecDepth 100000 in
set_option maxHeartbeats 1000000 in
theorem L_opening_ok {B o : Nat} {f : Nat → Int64} (hC : CX G F c bv X) (x : Int32) (ho : F.2 o = some (.inl (gC G 1, 1, .inr (.inl f)))) (h1 : o < F.1) (h2 : c + 131 ≤ o) (h3 : ¬ o = bv) (h4 : gN G ≤ o) : AC G mL_opening 12 1 6 [.ref c, .int x, .ref o] F (WQ G c bv o X (if hasB X.sg.J.length x = true then 0 else 1) ((nI (jo X.sg.J (cl x))).toInt64) F) := by
  have hpr : (if hasB X.sg.J.length x = true then 0 else 1) ≤ 1 := by split <;> omega
  have hK := X8_opening_ok hC x
  obtain ⟨hn, hf, ⟨c0, -⟩, -⟩ := hC
  refine AC.ofH [some (.ref c), some (.int x), some (.ref o), none] rfl (by decide) (Nat.le_of_ble_eq_true rfl) rfl ?_
  refine AF.aload_n dL_opening_0 rfl ?_
  refine AF.iconst (0) dL_opening_1 (by decide) ?_
  refine AF.aload_n dL_opening_2 rfl ?_
  refine AF.iload_n dL_opening_3 rfl ?_
  refine AF.callVH (bc := 0) (bs := 0) (mc' := 1) (ms' := 6) dL_opening_4 kv_L_31 hK c0 rfl rfl rfl (Nat.le_of_ble_eq_true rfl) (by decide) (fun E F' q => ?_) (fun v F' q => ?_)
  · obtain ⟨e1, e2⟩ := rx_x q.1
    have e3 := fun (z : Int64) => WQ.x (z := z) q ho h1 h2 h3
    rcases (by omega : (if hasB X.sg.J.length x = true then 0 else 1) = 1) with hp
    · rw [hp] at e2
      subst e2
      refine ⟨_, _, hx_opening_0, fun q9 => ?_⟩
      refine AF.astore_n dL_opening_12 (by decide) ?_
      refine AF.iconst (nI 1) dL_opening_13 (by decide) ?_
      exact AF.ireturn dL_opening_14 rfl (e3 _ _ hp)
  · obtain ⟨e1, bv2, hC2, hx⟩ := q
    obtain ⟨hp, rfl⟩ := rx_n e1
    have ho2 := (hx.2.2 o h1 (Or.inr h2) h3).trans ho
    have h5 : ¬ o = bv2 := by have := hx.2.1; omega
    refine AF.i2l dL_opening_7 ?_
    refine AF.lastoreF 0 dL_opening_8 ho2 h4 rfl (by omega) (by decide) ?_
    intro F2 e9 h9 o9
    refine AF.goto 15 dL_opening_9 (by decide) ?_
    refine AF.iconst (nI 0) dL_opening_15 (by decide) ?_
    exact AF.ireturn dL_opening_16 rfl (WQ.n hC2 hx hp e9 h9 o9 h2 h5)
theorem hx_height_0 : HX mL_height 4 "java/lang/IndexOutOfBoundsException" [] (0, 9, 12, 22) := ⟨⟨[], rfl⟩, fun z hz => absurd hz List.not_mem_nil, by decide +kernel, by decide, "java/lang/IndexOutOfBoundsException", tb 621 (by decide +kernel), tb 496 (by decide +kernel)⟩
set_option maxRecDepth 100000 in
set_option maxHeartbeats 1000000 in
theorem L_height_ok {B o : Nat} {f : Nat → Int64} (hC : CX G F c bv X) (x : Int32) (hI : SQ X.sg B) (ho : F.2 o = some (.inl (gC G 1, 1, .inr (.inl f)))) (h1 : o < F.1) (h2 : c + 131 ≤ o) (h3 : ¬ o = bv) (h4 : gN G ≤ o) : AC G mL_height 12 1 6 [.ref c, .int x, .ref o] F (WQ G c bv o X (if hasB X.sg.J.length x = true then 0 else 1) ((nI (hgt X.sg.cap (dem X.sg.J) (jo X.sg.J (cl x)))).toInt64) F) := by
  have hpr : (if hasB X.sg.J.length x = true then 0 else 1) ≤ 1 := by split <;> omega
  have hK := X8_height_ok hC hI x
  obtain ⟨hn, hf, ⟨c0, -⟩, -⟩ := hC
  refine AC.ofH [some (.ref c), some (.int x), some (.ref o), none] rfl (by decide) (Nat.le_of_ble_eq_true rfl) rfl ?_
  refine AF.aload_n dL_height_0 rfl ?_
  refine AF.iconst (0) dL_height_1 (by decide) ?_
  refine AF.aload_n dL_height_2 rfl ?_
  refine AF.iload_n dL_height_3 rfl ?_
  refine AF.callVH (bc := 0) (bs := 0) (mc' := 1) (ms' := 6) dL_height_4 kv_L_34 hK c0 rfl rfl rfl (Nat.le_of_ble_eq_true rfl) (by decide) (fun E F' q => ?_) (fun v F' q => ?_)
  · obtain ⟨e1, e2⟩ := rx_x q.1
    have e3 := fun (z : Int64) => WQ.x (z := z) q ho h1 h2 h3
    rcases (by omega : (if hasB X.sg.J.length x = true then 0 else 1) = 1) with hp
    · rw [hp] at e2
      subst e2
      refine ⟨_, _, hx_height_0, fun q9 => ?_⟩
      refine AF.astore_n dL_height_12 (by decide) ?_
      refine AF.iconst (nI 1) dL_height_13 (by decide) ?_
      exact AF.ireturn dL_height_14 rfl (e3 _ _ hp)
  · obtain ⟨e1, bv2, hC2, hx⟩ := q
    obtain ⟨hp, rfl⟩ := rx_n e1
    have ho2 := (hx.2.2 o h1 (Or.inr h2) h3).trans ho
    have h5 : ¬ o = bv2 := by have := hx.2.1; omega
    refine AF.i2l dL_height_7 ?_
    refine AF.lastoreF 0 dL_height_8 ho2 h4 rfl (by omega) (by decide) ?_
    intro F2 e9 h9 o9
    refine AF.goto 15 dL_height_9 (by decide) ?_
    refine AF.iconst (nI 0) dL_height_15 (by decide) ?_
    exact AF.ireturn dL_height_16 rfl (WQ.n hC2 hx hp e9 h9 o9 h2 h5)
theorem hx_landing_0 : HX mL_landing 4 "java/lang/IndexOutOfBoundsException" [] (0, 9, 12, 22) := ⟨⟨[], rfl⟩, fun z hz => absurd hz List.not_mem_nil, by decide +kernel, by decide, "java/lang/IndexOutOfBoundsException", tb 621 (by decide +kernel), tb 496 (by decide +kernel)⟩
set_option maxRecDepth 100000 in
set_option maxHeartbeats 1000000 in
theorem L_landing_ok {B o : Nat} {f : Nat → Int64} (hC : CX G F c bv X) (x : Int32) (hI : SQ X.sg B) (ho : F.2 o = some (.inl (gC G 1, 1, .inr (.inl f)))) (h1 : o < F.1) (h2 : c + 131 ≤ o) (h3 : ¬ o = bv) (h4 : gN G ≤ o) : AC G mL_landing 12 1 6 [.ref c, .int x, .ref o] F (WQ G c bv o X (if hasB X.sg.J.length x = true then 0 else 1) ((lan X.sg.J X.sg.cap X.sg.w (dem X.sg.J) (cl x)).toInt64) F) := by
  have hpr : (if hasB X.sg.J.length x = true then 0 else 1) ≤ 1 := by split <;> omega
  have hK := X8_landing_ok hC hI x
  obtain ⟨hn, hf, ⟨c0, -⟩, -⟩ := hC
  refine AC.ofH [some (.ref c), some (.int x), some (.ref o), none] rfl (by decide) (Nat.le_of_ble_eq_true rfl) rfl ?_
  refine AF.aload_n dL_landing_0 rfl ?_
  refine AF.iconst (0) dL_landing_1 (by decide) ?_
  refine AF.aload_n dL_landing_2 rfl ?_
  refine AF.iload_n dL_landing_3 rfl ?_
  refine AF.callVH (bc := 0) (bs := 0) (mc' := 1) (ms' := 6) dL_landing_4 kv_L_37 hK c0 rfl rfl rfl (Nat.le_of_ble_eq_true rfl) (by decide) (fun E F' q => ?_) (fun v F' q => ?_)
  · obtain ⟨e1, e2⟩ := rx_x q.1
    have e3 := fun (z : Int64) => WQ.x (z := z) q ho h1 h2 h3
    rcases (by omega : (if hasB X.sg.J.length x = true then 0 else 1) = 1) with hp
    · rw [hp] at e2
      subst e2
      refine ⟨_, _, hx_landing_0, fun q9 => ?_⟩
      refine AF.astore_n dL_landing_12 (by decide) ?_
      refine AF.iconst (nI 1) dL_landing_13 (by decide) ?_
      exact AF.ireturn dL_landing_14 rfl (e3 _ _ hp)
  · obtain ⟨e1, bv2, hC2, hx⟩ := q
    obtain ⟨hp, rfl⟩ := rx_n e1
    have ho2 := (hx.2.2 o h1 (Or.inr h2) h3).trans ho
    have h5 : ¬ o = bv2 := by have := hx.2.1; omega
    refine AF.i2l dL_landing_7 ?_
    refine AF.lastoreF 0 dL_landing_8 ho2 h4 rfl (by omega) (by decide) ?_
    intro F2 e9 h9 o9
    refine AF.goto 15 dL_landing_9 (by decide) ?_
    refine AF.iconst (nI 0) dL_landing_15 (by decide) ?_
    exact AF.ireturn dL_landing_16 rfl (WQ.n hC2 hx hp e9 h9 o9 h2 h5)
theorem hx_isWild_0 : HX mL_isWild 4 "java/lang/IndexOutOfBoundsException" [] (0, 16, 19, 22) := ⟨⟨[], rfl⟩, fun z hz => absurd hz List.not_mem_nil, by decide +kernel, by decide, "java/lang/IndexOutOfBoundsException", tb 621 (by decide +kernel), tb 496 (by decide +kernel)⟩
set_option maxRecDepth 100000 in
set_option maxHeartbeats 1000000 in
theorem L_isWild_ok {B o : Nat} {f : Nat → Int64} (hC : CX G F c bv X) (x : Int32) (hI : SQ X.sg B) (ho : F.2 o = some (.inl (gC G 1, 1, .inr (.inl f)))) (h1 : o < F.1) (h2 : c + 131 ≤ o) (h3 : ¬ o = bv) (h4 : gN G ≤ o) : AC G mL_isWild 12 1 6 [.ref c, .int x, .ref o] F (WQ G c bv o X (if hasB X.sg.J.length x = true then 0 else 1) ((if (bI (wld X.sg.J X.sg.cap X.sg.w (cl x))) = 0 then 0 else 1)) F) := by
  have hpr : (if hasB X.sg.J.length x = true then 0 else 1) ≤ 1 := by split <;> omega
  have hK := X8_isWild_ok hC hI x
  obtain ⟨hn, hf, ⟨c0, -⟩, -⟩ := hC
  refine AC.ofH [some (.ref c), some (.int x), some (.ref o), none] rfl (by decide) (Nat.le_of_ble_eq_true rfl) rfl ?_
  refine AF.aload_n dL_isWild_0 rfl ?_
  refine AF.iconst (0) dL_isWild_1 (by decide) ?_
  refine AF.aload_n dL_isWild_2 rfl ?_
  refine AF.iload_n dL_isWild_3 rfl ?_
  refine AF.callVH (bc := 0) (bs := 0) (mc' := 1) (ms' := 6) dL_isWild_4 kv_L_40 hK c0 rfl rfl rfl (Nat.le_of_ble_eq_true rfl) (by decide) (fun E F' q => ?_) (fun v F' q => ?_)
  · obtain ⟨e1, e2⟩ := rx_x q.1
    have e3 := fun (z : Int64) => WQ.x (z := z) q ho h1 h2 h3
    rcases (by omega : (if hasB X.sg.J.length x = true then 0 else 1) = 1) with hp
    · rw [hp] at e2
      subst e2
      refine ⟨_, _, hx_isWild_0, fun q9 => ?_⟩
      refine AF.astore_n dL_isWild_19 (by decide) ?_
      refine AF.iconst (nI 1) dL_isWild_20 (by decide) ?_
      exact AF.ireturn dL_isWild_21 rfl (e3 _ _ hp)
  · obtain ⟨e1, bv2, hC2, hx⟩ := q
    obtain ⟨hp, rfl⟩ := rx_n e1
    have ho2 := (hx.2.2 o h1 (Or.inr h2) h3).trans ho
    have h5 : ¬ o = bv2 := by have := hx.2.1; omega
    refine AF.if_eq 14 dL_isWild_7 (by decide) (fun c1 => ?_) (fun c1 => ?_)
    · refine AF.lconst (0) dL_isWild_14 (by decide) ?_
      rw [if_pos c1]
      refine AF.lastoreF 0 dL_isWild_15 ho2 h4 rfl (by omega) (by decide) ?_
      intro F2 e9 h9 o9
      refine AF.goto 22 dL_isWild_16 (by decide) ?_
      refine AF.iconst (nI 0) dL_isWild_22 (by decide) ?_
      exact AF.ireturn dL_isWild_23 rfl (WQ.n hC2 hx hp e9 h9 o9 h2 h5)
    · refine AF.lconst (1) dL_isWild_10 (by decide) ?_
      refine AF.goto 15 dL_isWild_11 (by decide) ?_
      rw [if_neg c1]
      refine AF.lastoreF 0 dL_isWild_15 ho2 h4 rfl (by omega) (by decide) ?_
      intro F2 e9 h9 o9
      refine AF.goto 22 dL_isWild_16 (by decide) ?_
      refine AF.iconst (nI 0) dL_isWild_22 (by decide) ?_
      exact AF.ireturn dL_isWild_23 rfl (WQ.n hC2 hx hp e9 h9 o9 h2 h5)
theorem hx_highestJet_0 : HX mL_highestJet 3 "java/util/NoSuchElementException" [] (0, 8, 11, 48) := ⟨⟨[], rfl⟩, fun z hz => absurd hz List.not_mem_nil, by decide +kernel, by decide, "java/util/NoSuchElementException", tb 735 (by decide +kernel), tb 746 (by decide +kernel)⟩
set_option maxRecDepth 100000 in
set_option maxHeartbeats 1000000 in
theorem L_highestJet_ok {B o : Nat} {f : Nat → Int64} (hC : CX G F c bv X) (hI : SQ X.sg B) (ho : F.2 o = some (.inl (gC G 1, 1, .inr (.inl f)))) (h1 : o < F.1) (h2 : c + 131 ≤ o) (h3 : ¬ o = bv) (h4 : gN G ≤ o) : AC G mL_highestJet 12 1 6 [.ref c, .ref o] F (WQ G c bv o X (if X.sg.J.length = 0 then 1 else 0) ((nI (hghst X.sg.J X.sg.cap)).toInt64) F) := by
  have hpr : (if X.sg.J.length = 0 then 1 else 0) ≤ 1 := by split <;> omega
  have hK := X8_highestJet_ok hC hI
  obtain ⟨hn, hf, ⟨c0, -⟩, -⟩ := hC
  refine AC.ofH [some (.ref c), some (.ref o), none] rfl (by decide) (Nat.le_of_ble_eq_true rfl) rfl ?_
  refine AF.aload_n dL_highestJet_0 rfl ?_
  refine AF.iconst (0) dL_highestJet_1 (by decide) ?_
  refine AF.aload_n dL_highestJet_2 rfl ?_
  refine AF.callVH (bc := 0) (bs := 0) (mc' := 1) (ms' := 6) dL_highestJet_3 kv_L_44 hK c0 rfl rfl rfl (Nat.le_of_ble_eq_true rfl) (by decide) (fun E F' q => ?_) (fun v F' q => ?_)
  · obtain ⟨e1, e2⟩ := rx_x q.1
    have e3 := fun (z : Int64) => WQ.x (z := z) q ho h1 h2 h3
    rcases (by omega : (if X.sg.J.length = 0 then 1 else 0) = 1) with hp
    · rw [hp] at e2
      subst e2
      refine ⟨_, _, hx_highestJet_0, fun q9 => ?_⟩
      refine AF.astore_n dL_highestJet_11 (by decide) ?_
      refine AF.iconst (nI 1) dL_highestJet_12 (by decide) ?_
      exact AF.ireturn dL_highestJet_13 rfl (e3 _ _ hp)
  · obtain ⟨e1, bv2, hC2, hx⟩ := q
    obtain ⟨hp, rfl⟩ := rx_n e1
    have ho2 := (hx.2.2 o h1 (Or.inr h2) h3).trans ho
    have h5 : ¬ o = bv2 := by have := hx.2.1; omega
    refine AF.i2l dL_highestJet_6 ?_
    refine AF.lastoreF 0 dL_highestJet_7 ho2 h4 rfl (by omega) (by decide) ?_
    intro F2 e9 h9 o9
    refine AF.goto 14 dL_highestJet_8 (by decide) ?_
    refine AF.iconst (nI 0) dL_highestJet_14 (by decide) ?_
    exact AF.ireturn dL_highestJet_15 rfl (WQ.n hC2 hx hp e9 h9 o9 h2 h5)
theorem hx_jetByPosition_0 : HX mL_jetByPosition 4 "java/util/NoSuchElementException" [] (0, 9, 12, 48) := ⟨⟨[], rfl⟩, fun z hz => absurd hz List.not_mem_nil, by decide +kernel, by decide, "java/util/NoSuchElementException", tb 735 (by decide +kernel), tb 746 (by decide +kernel)⟩
set_option maxRecDepth 100000 in
set_option maxHeartbeats 1000000 in
theorem L_jetByPosition_ok {B o : Nat} {f : Nat → Int64} (hC : CX G F c bv X) (x : Int32) (hI : SQ X.sg B) (ho : F.2 o = some (.inl (gC G 1, 1, .inr (.inl f)))) (h1 : o < F.1) (h2 : c + 131 ≤ o) (h3 : ¬ o = bv) (h4 : gN G ≤ o) : AC G mL_jetByPosition 12 1 6 [.ref c, .int x, .ref o] F (WQ G c bv o X (if (fnd (fun j => decide (nI (rnk X.sg.J j) = x)) X.sg.J.length).isSome = true then 0 else 1) ((nI ((fnd (fun j => decide (nI (rnk X.sg.J j) = x)) X.sg.J.length).getD 0)).toInt64) F) := by
  have hpr : (if (fnd (fun j => decide (nI (rnk X.sg.J j) = x)) X.sg.J.length).isSome = true then 0 else 1) ≤ 1 := by split <;> omega
  have hK := X8_jetByPosition_ok hC hI x
  obtain ⟨hn, hf, ⟨c0, -⟩, -⟩ := hC
  refine AC.ofH [some (.ref c), some (.int x), some (.ref o), none] rfl (by decide) (Nat.le_of_ble_eq_true rfl) rfl ?_
  refine AF.aload_n dL_jetByPosition_0 rfl ?_
  refine AF.iconst (0) dL_jetByPosition_1 (by decide) ?_
  refine AF.aload_n dL_jetByPosition_2 rfl ?_
  refine AF.iload_n dL_jetByPosition_3 rfl ?_
  refine AF.callVH (bc := 0) (bs := 0) (mc' := 1) (ms' := 6) dL_jetByPosition_4 kv_L_50 hK c0 rfl rfl rfl (Nat.le_of_ble_eq_true rfl) (by decide) (fun E F' q => ?_) (fun v F' q => ?_)
  · obtain ⟨e1, e2⟩ := rx_x q.1
    have e3 := fun (z : Int64) => WQ.x (z := z) q ho h1 h2 h3
    rcases (by omega : (if (fnd (fun j => decide (nI (rnk X.sg.J j) = x)) X.sg.J.length).isSome = true then 0 else 1) = 1) with hp
    · rw [hp] at e2
      subst e2
      refine ⟨_, _, hx_jetByPosition_0, fun q9 => ?_⟩
      refine AF.astore_n dL_jetByPosition_12 (by decide) ?_
      refine AF.iconst (nI 1) dL_jetByPosition_13 (by decide) ?_
      exact AF.ireturn dL_jetByPosition_14 rfl (e3 _ _ hp)
  · obtain ⟨e1, bv2, hC2, hx⟩ := q
    obtain ⟨hp, rfl⟩ := rx_n e1
    have ho2 := (hx.2.2 o h1 (Or.inr h2) h3).trans ho
    have h5 : ¬ o = bv2 := by have := hx.2.1; omega
    refine AF.i2l dL_jetByPosition_7 ?_
    refine AF.lastoreF 0 dL_jetByPosition_8 ho2 h4 rfl (by omega) (by decide) ?_
    intro F2 e9 h9 o9
    refine AF.goto 15 dL_jetByPosition_9 (by decide) ?_
    refine AF.iconst (nI 0) dL_jetByPosition_15 (by decide) ?_
    exact AF.ireturn dL_jetByPosition_16 rfl (WQ.n hC2 hx hp e9 h9 o9 h2 h5)
theorem hx_nearestLanding_0 : HX mL_nearestLanding 4 "java/util/NoSuchElementException" [] (0, 9, 12, 48) := ⟨⟨[], rfl⟩, fun z hz => absurd hz List.not_mem_nil, by decide +kernel, by decide, "java/util/NoSuchElementException", tb 735 (by decide +kernel), tb 746 (by decide +kernel)⟩
set_option maxRecDepth 100000 in
set_option maxHeartbeats 1000000 in
theorem L_nearestLanding_ok {B o : Nat} {f : Nat → Int64} (hC : CX G F c bv X) (x : Int32) (hI : SQ X.sg B) (ho : F.2 o = some (.inl (gC G 1, 1, .inr (.inl f)))) (h1 : o < F.1) (h2 : c + 131 ≤ o) (h3 : ¬ o = bv) (h4 : gN G ≤ o) : AC G mL_nearestLanding 12 1 6 [.ref c, .int x, .ref o] F (WQ G c bv o X (if X.sg.J.length = 0 then 1 else 0) ((nI (nrst X.sg.J X.sg.cap X.sg.w x)).toInt64) F) := by
  have hpr : (if X.sg.J.length = 0 then 1 else 0) ≤ 1 := by split <;> omega
  have hK := X8_nearestLanding_ok hC hI x
  obtain ⟨hn, hf, ⟨c0, -⟩, -⟩ := hC
  refine AC.ofH [some (.ref c), some (.int x), some (.ref o), none] rfl (by decide) (Nat.le_of_ble_eq_true rfl) rfl ?_
  refine AF.aload_n dL_nearestLanding_0 rfl ?_
  refine AF.iconst (0) dL_nearestLanding_1 (by decide) ?_
  refine AF.aload_n dL_nearestLanding_2 rfl ?_
  refine AF.iload_n dL_nearestLanding_3 rfl ?_
  refine AF.callVH (bc := 0) (bs := 0) (mc' := 1) (ms' := 6) dL_nearestLanding_4 kv_L_53 hK c0 rfl rfl rfl (Nat.le_of_ble_eq_true rfl) (by decide) (fun E F' q => ?_) (fun v F' q => ?_)
  · obtain ⟨e1, e2⟩ := rx_x q.1
    have e3 := fun (z : Int64) => WQ.x (z := z) q ho h1 h2 h3
    rcases (by omega : (if X.sg.J.length = 0 then 1 else 0) = 1) with hp
    · rw [hp] at e2
      subst e2
      refine ⟨_, _, hx_nearestLanding_0, fun q9 => ?_⟩
      refine AF.astore_n dL_nearestLanding_12 (by decide) ?_
      refine AF.iconst (nI 1) dL_nearestLanding_13 (by decide) ?_
      exact AF.ireturn dL_nearestLanding_14 rfl (e3 _ _ hp)
  · obtain ⟨e1, bv2, hC2, hx⟩ := q
    obtain ⟨hp, rfl⟩ := rx_n e1
    have ho2 := (hx.2.2 o h1 (Or.inr h2) h3).trans ho
    have h5 : ¬ o = bv2 := by have := hx.2.1; omega
    refine AF.i2l dL_nearestLanding_7 ?_
    refine AF.lastoreF 0 dL_nearestLanding_8 ho2 h4 rfl (by omega) (by decide) ?_
    intro F2 e9 h9 o9
    refine AF.goto 15 dL_nearestLanding_9 (by decide) ?_
    refine AF.iconst (nI 0) dL_nearestLanding_15 (by decide) ?_
    exact AF.ireturn dL_nearestLanding_16 rfl (WQ.n hC2 hx hp e9 h9 o9 h2 h5)
theorem hx_setCapacity_0 : HX mL_setCapacity 4 "java/lang/IllegalArgumentException" [] (0, 9, 12, 13) := ⟨⟨[], rfl⟩, fun z hz => absurd hz List.not_mem_nil, by decide +kernel, by decide, "java/lang/IllegalArgumentException", tb 460 (by decide +kernel), tb 568 (by decide +kernel)⟩
set_option maxRecDepth 100000 in
set_option maxHeartbeats 1000000 in
theorem L_setCapacity_ok {B o : Nat} {f : Nat → Int64} (hC : CX G F c bv X) (x : Int32) (ha : gN G ≤ c) (hI : SQ X.sg B) (ho : F.2 o = some (.inl (gC G 1, 1, .inr (.inl f)))) (h1 : o < F.1) (h2 : c + 131 ≤ o) (h3 : ¬ o = bv) (h4 : gN G ≤ o) : AC G mL_setCapacity 12 1 6 [.ref c, .int x, .ref o] F (WQ G c bv o (chX X (aCap X.sg x) (pCap x / 2)) (pCap x / 2) ((nI X.sg.cap).toInt64) F) := by
  have hpr : (pCap x / 2) ≤ 1 := by have := pCap_v (x := x); omega
  have hK := X8_setCapacity_ok hC ha hI x
  obtain ⟨hn, hf, ⟨c0, -⟩, -⟩ := hC
  refine AC.ofH [some (.ref c), some (.int x), some (.ref o), none] rfl (by decide) (Nat.le_of_ble_eq_true rfl) rfl ?_
  refine AF.aload_n dL_setCapacity_0 rfl ?_
  refine AF.iconst (0) dL_setCapacity_1 (by decide) ?_
  refine AF.aload_n dL_setCapacity_2 rfl ?_
  refine AF.iload_n dL_setCapacity_3 rfl ?_
  refine AF.callVH (bc := 0) (bs := 0) (mc' := 1) (ms' := 6) dL_setCapacity_4 kv_L_56 hK c0 rfl rfl rfl (Nat.le_of_ble_eq_true rfl) (by decide) (fun E F' q => ?_) (fun v F' q => ?_)
  · obtain ⟨e1, e2⟩ := rx_x q.1
    have e3 := fun (z : Int64) => WQ.x (z := z) q ho h1 h2 h3
    rcases (by omega : (pCap x / 2) = 1) with hp
    · rw [hp] at e2
      subst e2
      refine ⟨_, _, hx_setCapacity_0, fun q9 => ?_⟩
      refine AF.astore_n dL_setCapacity_12 (by decide) ?_
      refine AF.iconst (nI 1) dL_setCapacity_13 (by decide) ?_
      exact AF.ireturn dL_setCapacity_14 rfl (e3 _ _ hp)
  · obtain ⟨e1, bv2, hC2, hx⟩ := q
    obtain ⟨hp, rfl⟩ := rx_n e1
    have ho2 := (hx.2.2 o h1 (Or.inr h2) h3).trans ho
    have h5 : ¬ o = bv2 := by have := hx.2.1; omega
    refine AF.i2l dL_setCapacity_7 ?_
    refine AF.lastoreF 0 dL_setCapacity_8 ho2 h4 rfl (by omega) (by decide) ?_
    intro F2 e9 h9 o9
    refine AF.goto 15 dL_setCapacity_9 (by decide) ?_
    refine AF.iconst (nI 0) dL_setCapacity_15 (by decide) ?_
    exact AF.ireturn dL_setCapacity_16 rfl (WQ.n hC2 hx hp e9 h9 o9 h2 h5)
theorem hx_setWind_0 : HX mL_setWind 4 "java/lang/IllegalArgumentException" [] (0, 9, 12, 13) := ⟨⟨[], rfl⟩, fun z hz => absurd hz List.not_mem_nil, by decide +kernel, by decide, "java/lang/IllegalArgumentException", tb 460 (by decide +kernel), tb 568 (by decide +kernel)⟩
set_option maxRecDepth 100000 in
set_option maxHeartbeats 1000000 in
theorem L_setWind_ok {B o : Nat} {f : Nat → Int64} (hC : CX G F c bv X) (x : Int32) (ha : gN G ≤ c) (hI : SQ X.sg B) (ho : F.2 o = some (.inl (gC G 1, 1, .inr (.inl f)))) (h1 : o < F.1) (h2 : c + 131 ≤ o) (h3 : ¬ o = bv) (h4 : gN G ≤ o) : AC G mL_setWind 12 1 6 [.ref c, .int x, .ref o] F (WQ G c bv o (chX X (aWnd X.sg x) (pWnd x / 2)) (pWnd x / 2) ((X.sg.w).toInt64) F) := by
  have hpr : (pWnd x / 2) ≤ 1 := by have := pWnd_v (x := x); omega
  have hK := X8_setWind_ok hC ha hI x
  obtain ⟨hn, hf, ⟨c0, -⟩, -⟩ := hC
  refine AC.ofH [some (.ref c), some (.int x), some (.ref o), none] rfl (by decide) (Nat.le_of_ble_eq_true rfl) rfl ?_
  refine AF.aload_n dL_setWind_0 rfl ?_
  refine AF.iconst (0) dL_setWind_1 (by decide) ?_
  refine AF.aload_n dL_setWind_2 rfl ?_
  refine AF.iload_n dL_setWind_3 rfl ?_
  refine AF.callVH (bc := 0) (bs := 0) (mc' := 1) (ms' := 6) dL_setWind_4 kv_L_59 hK c0 rfl rfl rfl (Nat.le_of_ble_eq_true rfl) (by decide) (fun E F' q => ?_) (fun v F' q => ?_)
  · obtain ⟨e1, e2⟩ := rx_x q.1
    have e3 := fun (z : Int64) => WQ.x (z := z) q ho h1 h2 h3
    rcases (by omega : (pWnd x / 2) = 1) with hp
    · rw [hp] at e2
      subst e2
      refine ⟨_, _, hx_setWind_0, fun q9 => ?_⟩
      refine AF.astore_n dL_setWind_12 (by decide) ?_
      refine AF.iconst (nI 1) dL_setWind_13 (by decide) ?_
      exact AF.ireturn dL_setWind_14 rfl (e3 _ _ hp)
  · obtain ⟨e1, bv2, hC2, hx⟩ := q
    obtain ⟨hp, rfl⟩ := rx_n e1
    have ho2 := (hx.2.2 o h1 (Or.inr h2) h3).trans ho
    have h5 : ¬ o = bv2 := by have := hx.2.1; omega
    refine AF.i2l dL_setWind_7 ?_
    refine AF.lastoreF 0 dL_setWind_8 ho2 h4 rfl (by omega) (by decide) ?_
    intro F2 e9 h9 o9
    refine AF.goto 15 dL_setWind_9 (by decide) ?_
    refine AF.iconst (nI 0) dL_setWind_15 (by decide) ?_
    exact AF.ireturn dL_setWind_16 rfl (WQ.n hC2 hx hp e9 h9 o9 h2 h5)
theorem hx_addFigure_0 : HX mL_addFigure 3 "java/lang/IllegalStateException" [] (0, 8, 11, 17) := ⟨⟨[], rfl⟩, fun z hz => absurd hz List.not_mem_nil, by decide +kernel, by decide, "java/lang/IllegalStateException", tb 462 (by decide +kernel), tb 600 (by decide +kernel)⟩
set_option maxRecDepth 100000 in
set_option maxHeartbeats 1000000 in
theorem L_addFigure_ok {B o : Nat} {f : Nat → Int64} (hC : CX G F c bv X) (ha : gN G ≤ c) (hI : SQ X.sg B) (ho : F.2 o = some (.inl (gC G 1, 1, .inr (.inl f)))) (h1 : o < F.1) (h2 : c + 131 ≤ o) (h3 : ¬ o = bv) (h4 : gN G ≤ o) : AC G mL_addFigure 12 1 6 [.ref c, .ref o] F (WQ G c bv o (chX X (aFig X.sg) (if X.sg.Fg.length < 5 then 0 else 1)) (if X.sg.Fg.length < 5 then 0 else 1) ((nI X.sg.Fg.length).toInt64) F) := by
  have hpr : (if X.sg.Fg.length < 5 then 0 else 1) ≤ 1 := by split <;> omega
  have hK := X8_addFigure_ok hC ha hI
  obtain ⟨hn, hf, ⟨c0, -⟩, -⟩ := hC
  refine AC.ofH [some (.ref c), some (.ref o), none] rfl (by decide) (Nat.le_of_ble_eq_true rfl) rfl ?_
  refine AF.aload_n dL_addFigure_0 rfl ?_
  refine AF.iconst (0) dL_addFigure_1 (by decide) ?_
  refine AF.aload_n dL_addFigure_2 rfl ?_
  refine AF.callVH (bc := 0) (bs := 0) (mc' := 1) (ms' := 6) dL_addFigure_3 kv_L_62 hK c0 rfl rfl rfl (Nat.le_of_ble_eq_true rfl) (by decide) (fun E F' q => ?_) (fun v F' q => ?_)
  · obtain ⟨e1, e2⟩ := rx_x q.1
    have e3 := fun (z : Int64) => WQ.x (z := z) q ho h1 h2 h3
    rcases (by omega : (if X.sg.Fg.length < 5 then 0 else 1) = 1) with hp
    · rw [hp] at e2
      subst e2
      refine ⟨_, _, hx_addFigure_0, fun q9 => ?_⟩
      refine AF.astore_n dL_addFigure_11 (by decide) ?_
      refine AF.iconst (nI 1) dL_addFigure_12 (by decide) ?_
      exact AF.ireturn dL_addFigure_13 rfl (e3 _ _ hp)
  · obtain ⟨e1, bv2, hC2, hx⟩ := q
    obtain ⟨hp, rfl⟩ := rx_n e1
    have ho2 := (hx.2.2 o h1 (Or.inr h2) h3).trans ho
    have h5 : ¬ o = bv2 := by have := hx.2.1; omega
    refine AF.i2l dL_addFigure_6 ?_
    refine AF.lastoreF 0 dL_addFigure_7 ho2 h4 rfl (by omega) (by decide) ?_
    intro F2 e9 h9 o9
    refine AF.goto 14 dL_addFigure_8 (by decide) ?_
    refine AF.iconst (nI 0) dL_addFigure_14 (by decide) ?_
    exact AF.ireturn dL_addFigure_15 rfl (WQ.n hC2 hx hp e9 h9 o9 h2 h5)
theorem hx_removeFigure_0 : HX mL_removeFigure 4 "java/lang/IndexOutOfBoundsException" [] (0, 9, 12, 22) := ⟨⟨[(0, 9, 15, 17)], rfl⟩, fun z hz => absurd hz List.not_mem_nil, by decide +kernel, by decide, "java/lang/IndexOutOfBoundsException", tb 621 (by decide +kernel), tb 496 (by decide +kernel)⟩
theorem hx_removeFigure_1 : HX mL_removeFigure 4 "java/lang/IllegalStateException" [(0, 9, 12, 22)] (0, 9, 15, 17) := ⟨⟨[], rfl⟩, (fun z hz => by
    rcases (by simpa using hz : z = (0, 9, 12, 22)) with rfl
    · exact ⟨by decide, "java/lang/IndexOutOfBoundsException", tb 621 (by decide +kernel), by decide +kernel⟩), by decide +kernel, by decide, "java/lang/IllegalStateException", tb 462 (by decide +kernel), tb 600 (by decide +kernel)⟩
set_option maxRecDepth 100000 in
set_option maxHeartbeats 1000000 in
theorem L_removeFigure_ok {B o : Nat} {f : Nat → Int64} (hC : CX G F c bv X) (x : Int32) (ha : gN G ≤ c) (hI : SQ X.sg B) (ho : F.2 o = some (.inl (gC G 1, 1, .inr (.inl f)))) (h1 : o < F.1) (h2 : c + 131 ≤ o) (h3 : ¬ o = bv) (h4 : gN G ≤ o) : AC G mL_removeFigure 12 1 6 [.ref c, .int x, .ref o] F (WQ G c bv o (chX X (aRmF X.sg x) (if pDrF X.sg x = 4 then 2 else pDrF X.sg x)) (if pDrF X.sg x = 4 then 2 else pDrF X.sg x) ((nI (fg X.sg.Fg (cl x)).length).toInt64) F) := by
  have hpr : (if pDrF X.sg x = 4 then 2 else pDrF X.sg x) ≤ 2 := by have := pDrF_v (σ := X.sg) (x := x); split <;> omega
  have hK := X8_removeFigure_ok hC ha hI x
  obtain ⟨hn, hf, ⟨c0, -⟩, -⟩ := hC
  refine AC.ofH [some (.ref c), some (.int x), some (.ref o), none] rfl (by decide) (Nat.le_of_ble_eq_true rfl) rfl ?_
  refine AF.aload_n dL_removeFigure_0 rfl ?_
  refine AF.iconst (0) dL_removeFigure_1 (by decide) ?_
  refine AF.aload_n dL_removeFigure_2 rfl ?_
  refine AF.iload_n dL_removeFigure_3 rfl ?_
  refine AF.callVH (bc := 0) (bs := 0) (mc' := 1) (ms' := 6) dL_removeFigure_4 kv_L_65 hK c0 rfl rfl rfl (Nat.le_of_ble_eq_true rfl) (by decide) (fun E F' q => ?_) (fun v F' q => ?_)
  · obtain ⟨e1, e2⟩ := rx_x q.1
    have e3 := fun (z : Int64) => WQ.x (z := z) q ho h1 h2 h3
    rcases (by omega : (if pDrF X.sg x = 4 then 2 else pDrF X.sg x) = 1 ∨ (if pDrF X.sg x = 4 then 2 else pDrF X.sg x) = 2) with hp | hp
    · rw [hp] at e2
      subst e2
      refine ⟨_, _, hx_removeFigure_0, fun q9 => ?_⟩
      refine AF.astore_n dL_removeFigure_12 (by decide) ?_
      refine AF.iconst (nI 1) dL_removeFigure_13 (by decide) ?_
      exact AF.ireturn dL_removeFigure_14 rfl (e3 _ _ hp)
    · rw [hp] at e2
      subst e2
      refine ⟨_, _, hx_removeFigure_1, fun q9 => ?_⟩
      refine AF.astore_n dL_removeFigure_15 (by decide) ?_
      refine AF.iconst (nI 2) dL_removeFigure_16 (by decide) ?_
      exact AF.ireturn dL_removeFigure_17 rfl (e3 _ _ hp)
  · obtain ⟨e1, bv2, hC2, hx⟩ := q
    obtain ⟨hp, rfl⟩ := rx_n e1
    have ho2 := (hx.2.2 o h1 (Or.inr h2) h3).trans ho
    have h5 : ¬ o = bv2 := by have := hx.2.1; omega
    refine AF.i2l dL_removeFigure_7 ?_
    refine AF.lastoreF 0 dL_removeFigure_8 ho2 h4 rfl (by omega) (by decide) ?_
    intro F2 e9 h9 o9
    refine AF.goto 18 dL_removeFigure_9 (by decide) ?_
    refine AF.iconst (nI 0) dL_removeFigure_18 (by decide) ?_
    exact AF.ireturn dL_removeFigure_19 rfl (WQ.n hC2 hx hp e9 h9 o9 h2 h5)
theorem hx_addStep_0 : HX mL_addStep 9 "java/lang/IndexOutOfBoundsException" [] (0, 14, 17, 22) := ⟨⟨[(0, 14, 21, 13), (0, 14, 25, 17)], rfl⟩, fun z hz => absurd hz List.not_mem_nil, by decide +kernel, by decide, "java/lang/IndexOutOfBoundsException", tb 621 (by decide +kernel), tb 496 (by decide +kernel)⟩
theorem hx_addStep_1 : HX mL_addStep 9 "java/lang/IllegalArgumentException" [(0, 14, 17, 22)] (0, 14, 21, 13) := ⟨⟨[(0, 14, 25, 17)], rfl⟩, (fun z hz => by
    rcases (by simpa using hz : z = (0, 14, 17, 22)) with rfl
    · exact ⟨by decide, "java/lang/IndexOutOfBoundsException", tb 621 (by decide +kernel), by decide +kernel⟩), by decide +kernel, by decide, "java/lang/IllegalArgumentException", tb 460 (by decide +kernel), tb 568 (by decide +kernel)⟩
theorem hx_addStep_2 : HX mL_addStep 9 "java/lang/IllegalStateException" [(0, 14, 17, 22), (0, 14, 21, 13)] (0, 14, 25, 17) := ⟨⟨[], rfl⟩, (fun z hz => by
    rcases (by simpa using hz : z = (0, 14, 17, 22) ∨ z = (0, 14, 21, 13)) with rfl | rfl
    · exact ⟨by decide, "java/lang/IndexOutOfBoundsException", tb 621 (by decide +kernel), by decide +kernel⟩
    · exact ⟨by decide, "java/lang/IllegalArgumentException", tb 460 (by decide +kernel), by decide +kernel⟩), by decide +kernel, by decide, "java/lang/IllegalStateException", tb 462 (by decide +kernel), tb 600 (by decide +kernel)⟩
set_option maxRecDepth 100000 in
set_option maxHeartbeats 1000000 in
theorem L_addStep_ok {B o : Nat} {f : Nat → Int64} (hC : CX G F c bv X) (x y z u : Int32) (ha : gN G ≤ c) (hI : SQ X.sg B) (ho : F.2 o = some (.inl (gC G 1, 1, .inr (.inl f)))) (h1 : o < F.1) (h2 : c + 131 ≤ o) (h3 : ¬ o = bv) (h4 : gN G ≤ o) : AC G mL_addStep 12 1 6 [.ref c, .int x, .int y, .int z, .int u, .ref o] F (WQ G c bv o (chX X (aStp X.sg x y z u) (if pStp X.sg x y z u = 4 then 3 else pStp X.sg x y z u)) (if pStp X.sg x y z u = 4 then 3 else pStp X.sg x y z u) ((nI ((fg X.sg.Fg (cl x)).length + 1)).toInt64) F) := by
  have hpr : (if pStp X.sg x y z u = 4 then 3 else pStp X.sg x y z u) ≤ 3 := by have := pStp_v (σ := X.sg) (x := x) (y := y) (z := z) (u := u); split <;> omega
  have hK := X8_addStep_ok hC ha hI x y z u
  obtain ⟨hn, hf, ⟨c0, -⟩, -⟩ := hC
  refine AC.ofH [some (.ref c), some (.int x), some (.int y), some (.int z), some (.int u), some (.ref o), none] rfl (by decide) (Nat.le_of_ble_eq_true rfl) rfl ?_
  refine AF.aload dL_addStep_0 rfl ?_
  refine AF.iconst (0) dL_addStep_2 (by decide) ?_
  refine AF.aload_n dL_addStep_3 rfl ?_
  refine AF.iload_n dL_addStep_4 rfl ?_
  refine AF.iload_n dL_addStep_5 rfl ?_
  refine AF.iload_n dL_addStep_6 rfl ?_
  refine AF.iload dL_addStep_7 rfl ?_
  refine AF.callVH (bc := 0) (bs := 0) (mc' := 1) (ms' := 6) dL_addStep_9 kv_L_68 hK c0 rfl rfl rfl (Nat.le_of_ble_eq_true rfl) (by decide) (fun E F' q => ?_) (fun v F' q => ?_)
  · obtain ⟨e1, e2⟩ := rx_x q.1
    have e3 := fun (z : Int64) => WQ.x (z := z) q ho h1 h2 h3
    rcases (by omega : (if pStp X.sg x y z u = 4 then 3 else pStp X.sg x y z u) = 1 ∨ (if pStp X.sg x y z u = 4 then 3 else pStp X.sg x y z u) = 2 ∨ (if pStp X.sg x y z u = 4 then 3 else pStp X.sg x y z u) = 3) with hp | hp | hp
    · rw [hp] at e2
      subst e2
      refine ⟨_, _, hx_addStep_0, fun q9 => ?_⟩
      refine AF.astore dL_addStep_17 (by decide) ?_
      refine AF.iconst (nI 1) dL_addStep_19 (by decide) ?_
      exact AF.ireturn dL_addStep_20 rfl (e3 _ _ hp)
    · rw [hp] at e2
      subst e2
      refine ⟨_, _, hx_addStep_1, fun q9 => ?_⟩
      refine AF.astore dL_addStep_21 (by decide) ?_
      refine AF.iconst (nI 2) dL_addStep_23 (by decide) ?_
      exact AF.ireturn dL_addStep_24 rfl (e3 _ _ hp)
    · rw [hp] at e2
      subst e2
      refine ⟨_, _, hx_addStep_2, fun q9 => ?_⟩
      refine AF.astore dL_addStep_25 (by decide) ?_
      refine AF.iconst (nI 3) dL_addStep_27 (by decide) ?_
      exact AF.ireturn dL_addStep_28 rfl (e3 _ _ hp)
  · obtain ⟨e1, bv2, hC2, hx⟩ := q
    obtain ⟨hp, rfl⟩ := rx_n e1
    have ho2 := (hx.2.2 o h1 (Or.inr h2) h3).trans ho
    have h5 : ¬ o = bv2 := by have := hx.2.1; omega
    refine AF.i2l dL_addStep_12 ?_
    refine AF.lastoreF 0 dL_addStep_13 ho2 h4 rfl (by omega) (by decide) ?_
    intro F2 e9 h9 o9
    refine AF.goto 29 dL_addStep_14 (by decide) ?_
    refine AF.iconst (nI 0) dL_addStep_29 (by decide) ?_
    exact AF.ireturn dL_addStep_30 rfl (WQ.n hC2 hx hp e9 h9 o9 h2 h5)
theorem hx_removeStep_0 : HX mL_removeStep 5 "java/lang/IndexOutOfBoundsException" [] (0, 10, 13, 22) := ⟨⟨[], rfl⟩, fun z hz => absurd hz List.not_mem_nil, by decide +kernel, by decide, "java/lang/IndexOutOfBoundsException", tb 621 (by decide +kernel), tb 496 (by decide +kernel)⟩
set_option maxRecDepth 100000 in
set_option maxHeartbeats 1000000 in
theorem L_removeStep_ok {B o : Nat} {f : Nat → Int64} (hC : CX G F c bv X) (x y : Int32) (ha : gN G ≤ c) (hI : SQ X.sg B) (ho : F.2 o = some (.inl (gC G 1, 1, .inr (.inl f)))) (h1 : o < F.1) (h2 : c + 131 ≤ o) (h3 : ¬ o = bv) (h4 : gN G ≤ o) : AC G mL_removeStep 12 1 6 [.ref c, .int x, .int y, .ref o] F (WQ G c bv o (chX X (aRmS X.sg x y) (if hsB X.sg.Fg x y = true then 0 else 1)) (if hsB X.sg.Fg x y = true then 0 else 1) ((nI ((fg X.sg.Fg (cl x)).length - 1)).toInt64) F) := by
  have hpr : (if hsB X.sg.Fg x y = true then 0 else 1) ≤ 1 := by split <;> omega
  have hK := X8_removeStep_ok hC ha hI x y
  obtain ⟨hn, hf, ⟨c0, -⟩, -⟩ := hC
  refine AC.ofH [some (.ref c), some (.int x), some (.int y), some (.ref o), none] rfl (by decide) (Nat.le_of_ble_eq_true rfl) rfl ?_
  refine AF.aload_n dL_removeStep_0 rfl ?_
  refine AF.iconst (0) dL_removeStep_1 (by decide) ?_
  refine AF.aload_n dL_removeStep_2 rfl ?_
  refine AF.iload_n dL_removeStep_3 rfl ?_
  refine AF.iload_n dL_removeStep_4 rfl ?_
  refine AF.callVH (bc := 0) (bs := 0) (mc' := 1) (ms' := 6) dL_removeStep_5 kv_L_72 hK c0 rfl rfl rfl (Nat.le_of_ble_eq_true rfl) (by decide) (fun E F' q => ?_) (fun v F' q => ?_)
  · obtain ⟨e1, e2⟩ := rx_x q.1
    have e3 := fun (z : Int64) => WQ.x (z := z) q ho h1 h2 h3
    rcases (by omega : (if hsB X.sg.Fg x y = true then 0 else 1) = 1) with hp
    · rw [hp] at e2
      subst e2
      refine ⟨_, _, hx_removeStep_0, fun q9 => ?_⟩
      refine AF.astore dL_removeStep_13 (by decide) ?_
      refine AF.iconst (nI 1) dL_removeStep_15 (by decide) ?_
      exact AF.ireturn dL_removeStep_16 rfl (e3 _ _ hp)
  · obtain ⟨e1, bv2, hC2, hx⟩ := q
    obtain ⟨hp, rfl⟩ := rx_n e1
    have ho2 := (hx.2.2 o h1 (Or.inr h2) h3).trans ho
    have h5 : ¬ o = bv2 := by have := hx.2.1; omega
    refine AF.i2l dL_removeStep_8 ?_
    refine AF.lastoreF 0 dL_removeStep_9 ho2 h4 rfl (by omega) (by decide) ?_
    intro F2 e9 h9 o9
    refine AF.goto 17 dL_removeStep_10 (by decide) ?_
    refine AF.iconst (nI 0) dL_removeStep_17 (by decide) ?_
    exact AF.ireturn dL_removeStep_18 rfl (WQ.n hC2 hx hp e9 h9 o9 h2 h5)
theorem hx_stepCount_0 : HX mL_stepCount 4 "java/lang/IndexOutOfBoundsException" [] (0, 9, 12, 22) := ⟨⟨[], rfl⟩, fun z hz => absurd hz List.not_mem_nil, by decide +kernel, by decide, "java/lang/IndexOutOfBoundsException", tb 621 (by decide +kernel), tb 496 (by decide +kernel)⟩
set_option maxRecDepth 100000 in
set_option maxHeartbeats 1000000 in
theorem L_stepCount_ok {B o : Nat} {f : Nat → Int64} (hC : CX G F c bv X) (x : Int32) (ho : F.2 o = some (.inl (gC G 1, 1, .inr (.inl f)))) (h1 : o < F.1) (h2 : c + 131 ≤ o) (h3 : ¬ o = bv) (h4 : gN G ≤ o) : AC G mL_stepCount 12 1 6 [.ref c, .int x, .ref o] F (WQ G c bv o X (if hasB X.sg.Fg.length x = true then 0 else 1) ((nI (fg X.sg.Fg (cl x)).length).toInt64) F) := by
  have hpr : (if hasB X.sg.Fg.length x = true then 0 else 1) ≤ 1 := by split <;> omega
  have hK := X8_stepCount_ok hC x
  obtain ⟨hn, hf, ⟨c0, -⟩, -⟩ := hC
  refine AC.ofH [some (.ref c), some (.int x), some (.ref o), none] rfl (by decide) (Nat.le_of_ble_eq_true rfl) rfl ?_
  refine AF.aload_n dL_stepCount_0 rfl ?_
  refine AF.iconst (0) dL_stepCount_1 (by decide) ?_
  refine AF.aload_n dL_stepCount_2 rfl ?_
  refine AF.iload_n dL_stepCount_3 rfl ?_
  refine AF.callVH (bc := 0) (bs := 0) (mc' := 1) (ms' := 6) dL_stepCount_4 kv_L_75 hK c0 rfl rfl rfl (Nat.le_of_ble_eq_true rfl) (by decide) (fun E F' q => ?_) (fun v F' q => ?_)
  · obtain ⟨e1, e2⟩ := rx_x q.1
    have e3 := fun (z : Int64) => WQ.x (z := z) q ho h1 h2 h3
    rcases (by omega : (if hasB X.sg.Fg.length x = true then 0 else 1) = 1) with hp
    · rw [hp] at e2
      subst e2
      refine ⟨_, _, hx_stepCount_0, fun q9 => ?_⟩
      refine AF.astore_n dL_stepCount_12 (by decide) ?_
      refine AF.iconst (nI 1) dL_stepCount_13 (by decide) ?_
      exact AF.ireturn dL_stepCount_14 rfl (e3 _ _ hp)
  · obtain ⟨e1, bv2, hC2, hx⟩ := q
    obtain ⟨hp, rfl⟩ := rx_n e1
    have ho2 := (hx.2.2 o h1 (Or.inr h2) h3).trans ho
    have h5 : ¬ o = bv2 := by have := hx.2.1; omega
    refine AF.i2l dL_stepCount_7 ?_
    refine AF.lastoreF 0 dL_stepCount_8 ho2 h4 rfl (by omega) (by decide) ?_
    intro F2 e9 h9 o9
    refine AF.goto 15 dL_stepCount_9 (by decide) ?_
    refine AF.iconst (nI 0) dL_stepCount_15 (by decide) ?_
    exact AF.ireturn dL_stepCount_16 rfl (WQ.n hC2 hx hp e9 h9 o9 h2 h5)
theorem hx_stepDelay_0 : HX mL_stepDelay 5 "java/lang/IndexOutOfBoundsException" [] (0, 10, 13, 22) := ⟨⟨[], rfl⟩, fun z hz => absurd hz List.not_mem_nil, by decide +kernel, by decide, "java/lang/IndexOutOfBoundsException", tb 621 (by decide +kernel), tb 496 (by decide +kernel)⟩
set_option maxRecDepth 100000 in
set_option maxHeartbeats 1000000 in
theorem L_stepDelay_ok {B o : Nat} {f : Nat → Int64} (hC : CX G F c bv X) (x y : Int32) (ho : F.2 o = some (.inl (gC G 1, 1, .inr (.inl f)))) (h1 : o < F.1) (h2 : c + 131 ≤ o) (h3 : ¬ o = bv) (h4 : gN G ≤ o) : AC G mL_stepDelay 12 1 6 [.ref c, .int x, .int y, .ref o] F (WQ G c bv o X (if hsB X.sg.Fg x y = true then 0 else 1) ((nI (g3 (fg X.sg.Fg (cl x)) (cl y)).1).toInt64) F) := by
  have hpr : (if hsB X.sg.Fg x y = true then 0 else 1) ≤ 1 := by split <;> omega
  have hK := X8_stepDelay_ok hC x y
  obtain ⟨hn, hf, ⟨c0, -⟩, -⟩ := hC
  refine AC.ofH [some (.ref c), some (.int x), some (.int y), some (.ref o), none] rfl (by decide) (Nat.le_of_ble_eq_true rfl) rfl ?_
  refine AF.aload_n dL_stepDelay_0 rfl ?_
  refine AF.iconst (0) dL_stepDelay_1 (by decide) ?_
  refine AF.aload_n dL_stepDelay_2 rfl ?_
  refine AF.iload_n dL_stepDelay_3 rfl ?_
  refine AF.iload_n dL_stepDelay_4 rfl ?_
  refine AF.callVH (bc := 0) (bs := 0) (mc' := 1) (ms' := 6) dL_stepDelay_5 kv_L_78 hK c0 rfl rfl rfl (Nat.le_of_ble_eq_true rfl) (by decide) (fun E F' q => ?_) (fun v F' q => ?_)
  · obtain ⟨e1, e2⟩ := rx_x q.1
    have e3 := fun (z : Int64) => WQ.x (z := z) q ho h1 h2 h3
    rcases (by omega : (if hsB X.sg.Fg x y = true then 0 else 1) = 1) with hp
    · rw [hp] at e2
      subst e2
      refine ⟨_, _, hx_stepDelay_0, fun q9 => ?_⟩
      refine AF.astore dL_stepDelay_13 (by decide) ?_
      refine AF.iconst (nI 1) dL_stepDelay_15 (by decide) ?_
      exact AF.ireturn dL_stepDelay_16 rfl (e3 _ _ hp)
  · obtain ⟨e1, bv2, hC2, hx⟩ := q
    obtain ⟨hp, rfl⟩ := rx_n e1
    have ho2 := (hx.2.2 o h1 (Or.inr h2) h3).trans ho
    have h5 : ¬ o = bv2 := by have := hx.2.1; omega
    refine AF.i2l dL_stepDelay_8 ?_
    refine AF.lastoreF 0 dL_stepDelay_9 ho2 h4 rfl (by omega) (by decide) ?_
    intro F2 e9 h9 o9
    refine AF.goto 17 dL_stepDelay_10 (by decide) ?_
    refine AF.iconst (nI 0) dL_stepDelay_17 (by decide) ?_
    exact AF.ireturn dL_stepDelay_18 rfl (WQ.n hC2 hx hp e9 h9 o9 h2 h5)
theorem hx_stepJet_0 : HX mL_stepJet 5 "java/lang/IndexOutOfBoundsException" [] (0, 10, 13, 22) := ⟨⟨[], rfl⟩, fun z hz => absurd hz List.not_mem_nil, by decide +kernel, by decide, "java/lang/IndexOutOfBoundsException", tb 621 (by decide +kernel), tb 496 (by decide +kernel)⟩
set_option maxRecDepth 100000 in
set_option maxHeartbeats 1000000 in
theorem L_stepJet_ok {B o : Nat} {f : Nat → Int64} (hC : CX G F c bv X) (x y : Int32) (ho : F.2 o = some (.inl (gC G 1, 1, .inr (.inl f)))) (h1 : o < F.1) (h2 : c + 131 ≤ o) (h3 : ¬ o = bv) (h4 : gN G ≤ o) : AC G mL_stepJet 12 1 6 [.ref c, .int x, .int y, .ref o] F (WQ G c bv o X (if hsB X.sg.Fg x y = true then 0 else 1) ((nI (g3 (fg X.sg.Fg (cl x)) (cl y)).2.1).toInt64) F) := by
  have hpr : (if hsB X.sg.Fg x y = true then 0 else 1) ≤ 1 := by split <;> omega
  have hK := X8_stepJet_ok hC x y
  obtain ⟨hn, hf, ⟨c0, -⟩, -⟩ := hC
  refine AC.ofH [some (.ref c), some (.int x), some (.int y), some (.ref o), none] rfl (by decide) (Nat.le_of_ble_eq_true rfl) rfl ?_
  refine AF.aload_n dL_stepJet_0 rfl ?_
  refine AF.iconst (0) dL_stepJet_1 (by decide) ?_
  refine AF.aload_n dL_stepJet_2 rfl ?_
  refine AF.iload_n dL_stepJet_3 rfl ?_
  refine AF.iload_n dL_stepJet_4 rfl ?_
  refine AF.callVH (bc := 0) (bs := 0) (mc' := 1) (ms' := 6) dL_stepJet_5 kv_L_81 hK c0 rfl rfl rfl (Nat.le_of_ble_eq_true rfl) (by decide) (fun E F' q => ?_) (fun v F' q => ?_)
  · obtain ⟨e1, e2⟩ := rx_x q.1
    have e3 := fun (z : Int64) => WQ.x (z := z) q ho h1 h2 h3
    rcases (by omega : (if hsB X.sg.Fg x y = true then 0 else 1) = 1) with hp
    · rw [hp] at e2
      subst e2
      refine ⟨_, _, hx_stepJet_0, fun q9 => ?_⟩
      refine AF.astore dL_stepJet_13 (by decide) ?_
      refine AF.iconst (nI 1) dL_stepJet_15 (by decide) ?_
      exact AF.ireturn dL_stepJet_16 rfl (e3 _ _ hp)
  · obtain ⟨e1, bv2, hC2, hx⟩ := q
    obtain ⟨hp, rfl⟩ := rx_n e1
    have ho2 := (hx.2.2 o h1 (Or.inr h2) h3).trans ho
    have h5 : ¬ o = bv2 := by have := hx.2.1; omega
    refine AF.i2l dL_stepJet_8 ?_
    refine AF.lastoreF 0 dL_stepJet_9 ho2 h4 rfl (by omega) (by decide) ?_
    intro F2 e9 h9 o9
    refine AF.goto 17 dL_stepJet_10 (by decide) ?_
    refine AF.iconst (nI 0) dL_stepJet_17 (by decide) ?_
    exact AF.ireturn dL_stepJet_18 rfl (WQ.n hC2 hx hp e9 h9 o9 h2 h5)
theorem hx_stepOpening_0 : HX mL_stepOpening 5 "java/lang/IndexOutOfBoundsException" [] (0, 10, 13, 22) := ⟨⟨[], rfl⟩, fun z hz => absurd hz List.not_mem_nil, by decide +kernel, by decide, "java/lang/IndexOutOfBoundsException", tb 621 (by decide +kernel), tb 496 (by decide +kernel)⟩
set_option maxRecDepth 100000 in
set_option maxHeartbeats 1000000 in
theorem L_stepOpening_ok {B o : Nat} {f : Nat → Int64} (hC : CX G F c bv X) (x y : Int32) (ho : F.2 o = some (.inl (gC G 1, 1, .inr (.inl f)))) (h1 : o < F.1) (h2 : c + 131 ≤ o) (h3 : ¬ o = bv) (h4 : gN G ≤ o) : AC G mL_stepOpening 12 1 6 [.ref c, .int x, .int y, .ref o] F (WQ G c bv o X (if hsB X.sg.Fg x y = true then 0 else 1) ((nI (g3 (fg X.sg.Fg (cl x)) (cl y)).2.2).toInt64) F) := by
  have hpr : (if hsB X.sg.Fg x y = true then 0 else 1) ≤ 1 := by split <;> omega
  have hK := X8_stepOpening_ok hC x y
  obtain ⟨hn, hf, ⟨c0, -⟩, -⟩ := hC
  refine AC.ofH [some (.ref c), some (.int x), some (.int y), some (.ref o), none] rfl (by decide) (Nat.le_of_ble_eq_true rfl) rfl ?_
  refine AF.aload_n dL_stepOpening_0 rfl ?_
  refine AF.iconst (0) dL_stepOpening_1 (by decide) ?_
  refine AF.aload_n dL_stepOpening_2 rfl ?_
  refine AF.iload_n dL_stepOpening_3 rfl ?_
  refine AF.iload_n dL_stepOpening_4 rfl ?_
  refine AF.callVH (bc := 0) (bs := 0) (mc' := 1) (ms' := 6) dL_stepOpening_5 kv_L_84 hK c0 rfl rfl rfl (Nat.le_of_ble_eq_true rfl) (by decide) (fun E F' q => ?_) (fun v F' q => ?_)
  · obtain ⟨e1, e2⟩ := rx_x q.1
    have e3 := fun (z : Int64) => WQ.x (z := z) q ho h1 h2 h3
    rcases (by omega : (if hsB X.sg.Fg x y = true then 0 else 1) = 1) with hp
    · rw [hp] at e2
      subst e2
      refine ⟨_, _, hx_stepOpening_0, fun q9 => ?_⟩
      refine AF.astore dL_stepOpening_13 (by decide) ?_
      refine AF.iconst (nI 1) dL_stepOpening_15 (by decide) ?_
      exact AF.ireturn dL_stepOpening_16 rfl (e3 _ _ hp)
  · obtain ⟨e1, bv2, hC2, hx⟩ := q
    obtain ⟨hp, rfl⟩ := rx_n e1
    have ho2 := (hx.2.2 o h1 (Or.inr h2) h3).trans ho
    have h5 : ¬ o = bv2 := by have := hx.2.1; omega
    refine AF.i2l dL_stepOpening_8 ?_
    refine AF.lastoreF 0 dL_stepOpening_9 ho2 h4 rfl (by omega) (by decide) ?_
    intro F2 e9 h9 o9
    refine AF.goto 17 dL_stepOpening_10 (by decide) ?_
    refine AF.iconst (nI 0) dL_stepOpening_17 (by decide) ?_
    exact AF.ireturn dL_stepOpening_18 rfl (WQ.n hC2 hx hp e9 h9 o9 h2 h5)
theorem hx_figureLength_0 : HX mL_figureLength 4 "java/lang/IndexOutOfBoundsException" [] (0, 9, 12, 22) := ⟨⟨[], rfl⟩, fun z hz => absurd hz List.not_mem_nil, by decide +kernel, by decide, "java/lang/IndexOutOfBoundsException", tb 621 (by decide +kernel), tb 496 (by decide +kernel)⟩
set_option maxRecDepth 100000 in
set_option maxHeartbeats 1000000 in
theorem L_figureLength_ok {B o : Nat} {f : Nat → Int64} (hC : CX G F c bv X) (x : Int32) (hI : SQ X.sg B) (ho : F.2 o = some (.inl (gC G 1, 1, .inr (.inl f)))) (h1 : o < F.1) (h2 : c + 131 ≤ o) (h3 : ¬ o = bv) (h4 : gN G ≤ o) : AC G mL_figureLength 12 1 6 [.ref c, .int x, .ref o] F (WQ G c bv o X (if hasB X.sg.Fg.length x = true then 0 else 1) ((nI (fln (fg X.sg.Fg (cl x)))).toInt64) F) := by
  have hpr : (if hasB X.sg.Fg.length x = true then 0 else 1) ≤ 1 := by split <;> omega
  have hK := X8_figureLength_ok hC hI x
  obtain ⟨hn, hf, ⟨c0, -⟩, -⟩ := hC
  refine AC.ofH [some (.ref c), some (.int x), some (.ref o), none] rfl (by decide) (Nat.le_of_ble_eq_true rfl) rfl ?_
  refine AF.aload_n dL_figureLength_0 rfl ?_
  refine AF.iconst (0) dL_figureLength_1 (by decide) ?_
  refine AF.aload_n dL_figureLength_2 rfl ?_
  refine AF.iload_n dL_figureLength_3 rfl ?_
  refine AF.callVH (bc := 0) (bs := 0) (mc' := 1) (ms' := 6) dL_figureLength_4 kv_L_87 hK c0 rfl rfl rfl (Nat.le_of_ble_eq_true rfl) (by decide) (fun E F' q => ?_) (fun v F' q => ?_)
  · obtain ⟨e1, e2⟩ := rx_x q.1
    have e3 := fun (z : Int64) => WQ.x (z := z) q ho h1 h2 h3
    rcases (by omega : (if hasB X.sg.Fg.length x = true then 0 else 1) = 1) with hp
    · rw [hp] at e2
      subst e2
      refine ⟨_, _, hx_figureLength_0, fun q9 => ?_⟩
      refine AF.astore_n dL_figureLength_12 (by decide) ?_
      refine AF.iconst (nI 1) dL_figureLength_13 (by decide) ?_
      exact AF.ireturn dL_figureLength_14 rfl (e3 _ _ hp)
  · obtain ⟨e1, bv2, hC2, hx⟩ := q
    obtain ⟨hp, rfl⟩ := rx_n e1
    have ho2 := (hx.2.2 o h1 (Or.inr h2) h3).trans ho
    have h5 : ¬ o = bv2 := by have := hx.2.1; omega
    refine AF.i2l dL_figureLength_7 ?_
    refine AF.lastoreF 0 dL_figureLength_8 ho2 h4 rfl (by omega) (by decide) ?_
    intro F2 e9 h9 o9
    refine AF.goto 15 dL_figureLength_9 (by decide) ?_
    refine AF.iconst (nI 0) dL_figureLength_15 (by decide) ?_
    exact AF.ireturn dL_figureLength_16 rfl (WQ.n hC2 hx hp e9 h9 o9 h2 h5)
theorem hx_figuresUsing_0 : HX mL_figuresUsing 4 "java/lang/IndexOutOfBoundsException" [] (0, 9, 12, 22) := ⟨⟨[], rfl⟩, fun z hz => absurd hz List.not_mem_nil, by decide +kernel, by decide, "java/lang/IndexOutOfBoundsException", tb 621 (by decide +kernel), tb 496 (by decide +kernel)⟩
set_option maxRecDepth 100000 in
set_option maxHeartbeats 1000000 in
theorem L_figuresUsing_ok {B o : Nat} {f : Nat → Int64} (hC : CX G F c bv X) (x : Int32) (hI : SQ X.sg B) (ho : F.2 o = some (.inl (gC G 1, 1, .inr (.inl f)))) (h1 : o < F.1) (h2 : c + 131 ≤ o) (h3 : ¬ o = bv) (h4 : gN G ≤ o) : AC G mL_figuresUsing 12 1 6 [.ref c, .int x, .ref o] F (WQ G c bv o X (if hasB X.sg.J.length x = true then 0 else 1) ((nI (cntB (fun i => fus (fg X.sg.Fg i) (cl x)) X.sg.Fg.length)).toInt64) F) := by
  have hpr : (if hasB X.sg.J.length x = true then 0 else 1) ≤ 1 := by split <;> omega
  have hK := X8_figuresUsing_ok hC hI x
  obtain ⟨hn, hf, ⟨c0, -⟩, -⟩ := hC
  refine AC.ofH [some (.ref c), some (.int x), some (.ref o), none] rfl (by decide) (Nat.le_of_ble_eq_true rfl) rfl ?_
  refine AF.aload_n dL_figuresUsing_0 rfl ?_
  refine AF.iconst (0) dL_figuresUsing_1 (by decide) ?_
  refine AF.aload_n dL_figuresUsing_2 rfl ?_
  refine AF.iload_n dL_figuresUsing_3 rfl ?_
  refine AF.callVH (bc := 0) (bs := 0) (mc' := 1) (ms' := 6) dL_figuresUsing_4 kv_L_90 hK c0 rfl rfl rfl (Nat.le_of_ble_eq_true rfl) (by decide) (fun E F' q => ?_) (fun v F' q => ?_)
  · obtain ⟨e1, e2⟩ := rx_x q.1
    have e3 := fun (z : Int64) => WQ.x (z := z) q ho h1 h2 h3
    rcases (by omega : (if hasB X.sg.J.length x = true then 0 else 1) = 1) with hp
    · rw [hp] at e2
      subst e2
      refine ⟨_, _, hx_figuresUsing_0, fun q9 => ?_⟩
      refine AF.astore_n dL_figuresUsing_12 (by decide) ?_
      refine AF.iconst (nI 1) dL_figuresUsing_13 (by decide) ?_
      exact AF.ireturn dL_figuresUsing_14 rfl (e3 _ _ hp)
  · obtain ⟨e1, bv2, hC2, hx⟩ := q
    obtain ⟨hp, rfl⟩ := rx_n e1
    have ho2 := (hx.2.2 o h1 (Or.inr h2) h3).trans ho
    have h5 : ¬ o = bv2 := by have := hx.2.1; omega
    refine AF.i2l dL_figuresUsing_7 ?_
    refine AF.lastoreF 0 dL_figuresUsing_8 ho2 h4 rfl (by omega) (by decide) ?_
    intro F2 e9 h9 o9
    refine AF.goto 15 dL_figuresUsing_9 (by decide) ?_
    refine AF.iconst (nI 0) dL_figuresUsing_15 (by decide) ?_
    exact AF.ireturn dL_figuresUsing_16 rfl (WQ.n hC2 hx hp e9 h9 o9 h2 h5)
theorem hx_play_0 : HX mL_play 5 "java/lang/IndexOutOfBoundsException" [] (0, 10, 13, 22) := ⟨⟨[(0, 10, 17, 13), (0, 10, 21, 17)], rfl⟩, fun z hz => absurd hz List.not_mem_nil, by decide +kernel, by decide, "java/lang/IndexOutOfBoundsException", tb 621 (by decide +kernel), tb 496 (by decide +kernel)⟩
theorem hx_play_1 : HX mL_play 5 "java/lang/IllegalArgumentException" [(0, 10, 13, 22)] (0, 10, 17, 13) := ⟨⟨[(0, 10, 21, 17)], rfl⟩, (fun z hz => by
    rcases (by simpa using hz : z = (0, 10, 13, 22)) with rfl
    · exact ⟨by decide, "java/lang/IndexOutOfBoundsException", tb 621 (by decide +kernel), by decide +kernel⟩), by decide +kernel, by decide, "java/lang/IllegalArgumentException", tb 460 (by decide +kernel), tb 568 (by decide +kernel)⟩
theorem hx_play_2 : HX mL_play 5 "java/lang/IllegalStateException" [(0, 10, 13, 22), (0, 10, 17, 13)] (0, 10, 21, 17) := ⟨⟨[], rfl⟩, (fun z hz => by
    rcases (by simpa using hz : z = (0, 10, 13, 22) ∨ z = (0, 10, 17, 13)) with rfl | rfl
    · exact ⟨by decide, "java/lang/IndexOutOfBoundsException", tb 621 (by decide +kernel), by decide +kernel⟩
    · exact ⟨by decide, "java/lang/IllegalArgumentException", tb 460 (by decide +kernel), by decide +kernel⟩), by decide +kernel, by decide, "java/lang/IllegalStateException", tb 462 (by decide +kernel), tb 600 (by decide +kernel)⟩
set_option maxRecDepth 100000 in
set_option maxHeartbeats 1000000 in
theorem L_play_ok {B o : Nat} {f : Nat → Int64} (hC : CX G F c bv X) (x y : Int32) (ha : gN G ≤ c) (hI : SQ X.sg B) (ho : F.2 o = some (.inl (gC G 1, 1, .inr (.inl f)))) (h1 : o < F.1) (h2 : c + 131 ≤ o) (h3 : ¬ o = bv) (h4 : gN G ≤ o) : AC G mL_play 12 1 6 [.ref c, .int x, .int y, .ref o] F (WQ G c bv o (chX X (aPly X.sg x y) (if pPly X.sg x y = 4 then 3 else pPly X.sg x y)) (if pPly X.sg x y = 4 then 3 else pPly X.sg x y) ((nI (X.sg.bt + cl y)).toInt64) F) := by
  have hpr : (if pPly X.sg x y = 4 then 3 else pPly X.sg x y) ≤ 3 := by have := pPly_v (σ := X.sg) (x := x) (y := y); split <;> omega
  have hK := X8_play_ok hC ha hI x y
  obtain ⟨hn, hf, ⟨c0, -⟩, -⟩ := hC
  refine AC.ofH [some (.ref c), some (.int x), some (.int y), some (.ref o), none] rfl (by decide) (Nat.le_of_ble_eq_true rfl) rfl ?_
  refine AF.aload_n dL_play_0 rfl ?_
  refine AF.iconst (0) dL_play_1 (by decide) ?_
  refine AF.aload_n dL_play_2 rfl ?_
  refine AF.iload_n dL_play_3 rfl ?_
  refine AF.iload_n dL_play_4 rfl ?_
  refine AF.callVH (bc := 0) (bs := 0) (mc' := 1) (ms' := 6) dL_play_5 kv_L_93 hK c0 rfl rfl rfl (Nat.le_of_ble_eq_true rfl) (by decide) (fun E F' q => ?_) (fun v F' q => ?_)
  · obtain ⟨e1, e2⟩ := rx_x q.1
    have e3 := fun (z : Int64) => WQ.x (z := z) q ho h1 h2 h3
    rcases (by omega : (if pPly X.sg x y = 4 then 3 else pPly X.sg x y) = 1 ∨ (if pPly X.sg x y = 4 then 3 else pPly X.sg x y) = 2 ∨ (if pPly X.sg x y = 4 then 3 else pPly X.sg x y) = 3) with hp | hp | hp
    · rw [hp] at e2
      subst e2
      refine ⟨_, _, hx_play_0, fun q9 => ?_⟩
      refine AF.astore dL_play_13 (by decide) ?_
      refine AF.iconst (nI 1) dL_play_15 (by decide) ?_
      exact AF.ireturn dL_play_16 rfl (e3 _ _ hp)
    · rw [hp] at e2
      subst e2
      refine ⟨_, _, hx_play_1, fun q9 => ?_⟩
      refine AF.astore dL_play_17 (by decide) ?_
      refine AF.iconst (nI 2) dL_play_19 (by decide) ?_
      exact AF.ireturn dL_play_20 rfl (e3 _ _ hp)
    · rw [hp] at e2
      subst e2
      refine ⟨_, _, hx_play_2, fun q9 => ?_⟩
      refine AF.astore dL_play_21 (by decide) ?_
      refine AF.iconst (nI 3) dL_play_23 (by decide) ?_
      exact AF.ireturn dL_play_24 rfl (e3 _ _ hp)
  · obtain ⟨e1, bv2, hC2, hx⟩ := q
    obtain ⟨hp, rfl⟩ := rx_n e1
    have ho2 := (hx.2.2 o h1 (Or.inr h2) h3).trans ho
    have h5 : ¬ o = bv2 := by have := hx.2.1; omega
    refine AF.i2l dL_play_8 ?_
    refine AF.lastoreF 0 dL_play_9 ho2 h4 rfl (by omega) (by decide) ?_
    intro F2 e9 h9 o9
    refine AF.goto 25 dL_play_10 (by decide) ?_
    refine AF.iconst (nI 0) dL_play_25 (by decide) ?_
    exact AF.ireturn dL_play_26 rfl (WQ.n hC2 hx hp e9 h9 o9 h2 h5)
theorem hx_cancel_0 : HX mL_cancel 4 "java/lang/IndexOutOfBoundsException" [] (0, 9, 12, 22) := ⟨⟨[], rfl⟩, fun z hz => absurd hz List.not_mem_nil, by decide +kernel, by decide, "java/lang/IndexOutOfBoundsException", tb 621 (by decide +kernel), tb 496 (by decide +kernel)⟩
set_option maxRecDepth 100000 in
set_option maxHeartbeats 1000000 in
theorem L_cancel_ok {B o : Nat} {f : Nat → Int64} (hC : CX G F c bv X) (x : Int32) (ha : gN G ≤ c) (hI : SQ X.sg B) (ho : F.2 o = some (.inl (gC G 1, 1, .inr (.inl f)))) (h1 : o < F.1) (h2 : c + 131 ≤ o) (h3 : ¬ o = bv) (h4 : gN G ≤ o) : AC G mL_cancel 12 1 6 [.ref c, .int x, .ref o] F (WQ G c bv o (chX X (aCan X.sg x) (if hasB X.sg.E.length x = true then 0 else 1)) (if hasB X.sg.E.length x = true then 0 else 1) ((nI (en X.sg.E (cl x)).2).toInt64) F) := by
  have hpr : (if hasB X.sg.E.length x = true then 0 else 1) ≤ 1 := by split <;> omega
  have hK := X8_cancel_ok hC ha hI x
  obtain ⟨hn, hf, ⟨c0, -⟩, -⟩ := hC
  refine AC.ofH [some (.ref c), some (.int x), some (.ref o), none] rfl (by decide) (Nat.le_of_ble_eq_true rfl) rfl ?_
  refine AF.aload_n dL_cancel_0 rfl ?_
  refine AF.iconst (0) dL_cancel_1 (by decide) ?_
  refine AF.aload_n dL_cancel_2 rfl ?_
  refine AF.iload_n dL_cancel_3 rfl ?_
  refine AF.callVH (bc := 0) (bs := 0) (mc' := 1) (ms' := 6) dL_cancel_4 kv_L_96 hK c0 rfl rfl rfl (Nat.le_of_ble_eq_true rfl) (by decide) (fun E F' q => ?_) (fun v F' q => ?_)
  · obtain ⟨e1, e2⟩ := rx_x q.1
    have e3 := fun (z : Int64) => WQ.x (z := z) q ho h1 h2 h3
    rcases (by omega : (if hasB X.sg.E.length x = true then 0 else 1) = 1) with hp
    · rw [hp] at e2
      subst e2
      refine ⟨_, _, hx_cancel_0, fun q9 => ?_⟩
      refine AF.astore_n dL_cancel_12 (by decide) ?_
      refine AF.iconst (nI 1) dL_cancel_13 (by decide) ?_
      exact AF.ireturn dL_cancel_14 rfl (e3 _ _ hp)
  · obtain ⟨e1, bv2, hC2, hx⟩ := q
    obtain ⟨hp, rfl⟩ := rx_n e1
    have ho2 := (hx.2.2 o h1 (Or.inr h2) h3).trans ho
    have h5 : ¬ o = bv2 := by have := hx.2.1; omega
    refine AF.i2l dL_cancel_7 ?_
    refine AF.lastoreF 0 dL_cancel_8 ho2 h4 rfl (by omega) (by decide) ?_
    intro F2 e9 h9 o9
    refine AF.goto 15 dL_cancel_9 (by decide) ?_
    refine AF.iconst (nI 0) dL_cancel_15 (by decide) ?_
    exact AF.ireturn dL_cancel_16 rfl (WQ.n hC2 hx hp e9 h9 o9 h2 h5)
theorem hx_pass_0 : HX mL_pass 4 "java/lang/IllegalArgumentException" [] (0, 9, 12, 13) := ⟨⟨[], rfl⟩, fun z hz => absurd hz List.not_mem_nil, by decide +kernel, by decide, "java/lang/IllegalArgumentException", tb 460 (by decide +kernel), tb 568 (by decide +kernel)⟩
set_option maxRecDepth 100000 in
set_option maxHeartbeats 1000000 in
theorem L_pass_ok {B o : Nat} {f : Nat → Int64} (hC : CX G F c bv X) (x : Int32) (ha : gN G ≤ c) (hI : SQ X.sg B) (hB : B + 40 ≤ 2 ^ 21) (ho : F.2 o = some (.inl (gC G 1, 1, .inr (.inl f)))) (h1 : o < F.1) (h2 : c + 131 ≤ o) (h3 : ¬ o = bv) (h4 : gN G ≤ o) : AC G mL_pass 12 1 6 [.ref c, .int x, .ref o] F (WQ G c bv o (chX X (nxN X.sg (cl x)) (pPas x / 2)) (pPas x / 2) ((nI (nxF X.sg (cl x))).toInt64) F) := by
  have hpr : (pPas x / 2) ≤ 1 := by have := pPas_v (x := x); omega
  have hK := X8_pass_ok hC ha hI hB x
  obtain ⟨hn, hf, ⟨c0, -⟩, -⟩ := hC
  refine AC.ofH [some (.ref c), some (.int x), some (.ref o), none] rfl (by decide) (Nat.le_of_ble_eq_true rfl) rfl ?_
  refine AF.aload_n dL_pass_0 rfl ?_
  refine AF.iconst (0) dL_pass_1 (by decide) ?_
  refine AF.aload_n dL_pass_2 rfl ?_
  refine AF.iload_n dL_pass_3 rfl ?_
  refine AF.callVH (bc := 0) (bs := 0) (mc' := 1) (ms' := 6) dL_pass_4 kv_L_99 hK c0 rfl rfl rfl (Nat.le_of_ble_eq_true rfl) (by decide) (fun E F' q => ?_) (fun v F' q => ?_)
  · obtain ⟨e1, e2⟩ := rx_x q.1
    have e3 := fun (z : Int64) => WQ.x (z := z) q ho h1 h2 h3
    rcases (by omega : (pPas x / 2) = 1) with hp
    · rw [hp] at e2
      subst e2
      refine ⟨_, _, hx_pass_0, fun q9 => ?_⟩
      refine AF.astore_n dL_pass_12 (by decide) ?_
      refine AF.iconst (nI 1) dL_pass_13 (by decide) ?_
      exact AF.ireturn dL_pass_14 rfl (e3 _ _ hp)
  · obtain ⟨e1, bv2, hC2, hx⟩ := q
    obtain ⟨hp, rfl⟩ := rx_n e1
    have ho2 := (hx.2.2 o h1 (Or.inr h2) h3).trans ho
    have h5 : ¬ o = bv2 := by have := hx.2.1; omega
    refine AF.i2l dL_pass_7 ?_
    refine AF.lastoreF 0 dL_pass_8 ho2 h4 rfl (by omega) (by decide) ?_
    intro F2 e9 h9 o9
    refine AF.goto 15 dL_pass_9 (by decide) ?_
    refine AF.iconst (nI 0) dL_pass_15 (by decide) ?_
    exact AF.ireturn dL_pass_16 rfl (WQ.n hC2 hx hp e9 h9 o9 h2 h5)
theorem hx_entryFigure_0 : HX mL_entryFigure 4 "java/lang/IndexOutOfBoundsException" [] (0, 9, 12, 22) := ⟨⟨[], rfl⟩, fun z hz => absurd hz List.not_mem_nil, by decide +kernel, by decide, "java/lang/IndexOutOfBoundsException", tb 621 (by decide +kernel), tb 496 (by decide +kernel)⟩
set_option maxRecDepth 100000 in
set_option maxHeartbeats 1000000 in
theorem L_entryFigure_ok {B o : Nat} {f : Nat → Int64} (hC : CX G F c bv X) (x : Int32) (ho : F.2 o = some (.inl (gC G 1, 1, .inr (.inl f)))) (h1 : o < F.1) (h2 : c + 131 ≤ o) (h3 : ¬ o = bv) (h4 : gN G ≤ o) : AC G mL_entryFigure 12 1 6 [.ref c, .int x, .ref o] F (WQ G c bv o X (if hasB X.sg.E.length x = true then 0 else 1) ((nI (en X.sg.E (cl x)).1).toInt64) F) := by
  have hpr : (if hasB X.sg.E.length x = true then 0 else 1) ≤ 1 := by split <;> omega
  have hK := X8_entryFigure_ok hC x
  obtain ⟨hn, hf, ⟨c0, -⟩, -⟩ := hC
  refine AC.ofH [some (.ref c), some (.int x), some (.ref o), none] rfl (by decide) (Nat.le_of_ble_eq_true rfl) rfl ?_
  refine AF.aload_n dL_entryFigure_0 rfl ?_
  refine AF.iconst (0) dL_entryFigure_1 (by decide) ?_
  refine AF.aload_n dL_entryFigure_2 rfl ?_
  refine AF.iload_n dL_entryFigure_3 rfl ?_
  refine AF.callVH (bc := 0) (bs := 0) (mc' := 1) (ms' := 6) dL_entryFigure_4 kv_L_102 hK c0 rfl rfl rfl (Nat.le_of_ble_eq_true rfl) (by decide) (fun E F' q => ?_) (fun v F' q => ?_)
  · obtain ⟨e1, e2⟩ := rx_x q.1
    have e3 := fun (z : Int64) => WQ.x (z := z) q ho h1 h2 h3
    rcases (by omega : (if hasB X.sg.E.length x = true then 0 else 1) = 1) with hp
    · rw [hp] at e2
      subst e2
      refine ⟨_, _, hx_entryFigure_0, fun q9 => ?_⟩
      refine AF.astore_n dL_entryFigure_12 (by decide) ?_
      refine AF.iconst (nI 1) dL_entryFigure_13 (by decide) ?_
      exact AF.ireturn dL_entryFigure_14 rfl (e3 _ _ hp)
  · obtain ⟨e1, bv2, hC2, hx⟩ := q
    obtain ⟨hp, rfl⟩ := rx_n e1
    have ho2 := (hx.2.2 o h1 (Or.inr h2) h3).trans ho
    have h5 : ¬ o = bv2 := by have := hx.2.1; omega
    refine AF.i2l dL_entryFigure_7 ?_
    refine AF.lastoreF 0 dL_entryFigure_8 ho2 h4 rfl (by omega) (by decide) ?_
    intro F2 e9 h9 o9
    refine AF.goto 15 dL_entryFigure_9 (by decide) ?_
    refine AF.iconst (nI 0) dL_entryFigure_15 (by decide) ?_
    exact AF.ireturn dL_entryFigure_16 rfl (WQ.n hC2 hx hp e9 h9 o9 h2 h5)
theorem hx_entryStart_0 : HX mL_entryStart 4 "java/lang/IndexOutOfBoundsException" [] (0, 9, 12, 22) := ⟨⟨[], rfl⟩, fun z hz => absurd hz List.not_mem_nil, by decide +kernel, by decide, "java/lang/IndexOutOfBoundsException", tb 621 (by decide +kernel), tb 496 (by decide +kernel)⟩
set_option maxRecDepth 100000 in
set_option maxHeartbeats 1000000 in
theorem L_entryStart_ok {B o : Nat} {f : Nat → Int64} (hC : CX G F c bv X) (x : Int32) (ho : F.2 o = some (.inl (gC G 1, 1, .inr (.inl f)))) (h1 : o < F.1) (h2 : c + 131 ≤ o) (h3 : ¬ o = bv) (h4 : gN G ≤ o) : AC G mL_entryStart 12 1 6 [.ref c, .int x, .ref o] F (WQ G c bv o X (if hasB X.sg.E.length x = true then 0 else 1) ((nI (en X.sg.E (cl x)).2).toInt64) F) := by
  have hpr : (if hasB X.sg.E.length x = true then 0 else 1) ≤ 1 := by split <;> omega
  have hK := X8_entryStart_ok hC x
  obtain ⟨hn, hf, ⟨c0, -⟩, -⟩ := hC
  refine AC.ofH [some (.ref c), some (.int x), some (.ref o), none] rfl (by decide) (Nat.le_of_ble_eq_true rfl) rfl ?_
  refine AF.aload_n dL_entryStart_0 rfl ?_
  refine AF.iconst (0) dL_entryStart_1 (by decide) ?_
  refine AF.aload_n dL_entryStart_2 rfl ?_
  refine AF.iload_n dL_entryStart_3 rfl ?_
  refine AF.callVH (bc := 0) (bs := 0) (mc' := 1) (ms' := 6) dL_entryStart_4 kv_L_105 hK c0 rfl rfl rfl (Nat.le_of_ble_eq_true rfl) (by decide) (fun E F' q => ?_) (fun v F' q => ?_)
  · obtain ⟨e1, e2⟩ := rx_x q.1
    have e3 := fun (z : Int64) => WQ.x (z := z) q ho h1 h2 h3
    rcases (by omega : (if hasB X.sg.E.length x = true then 0 else 1) = 1) with hp
    · rw [hp] at e2
      subst e2
      refine ⟨_, _, hx_entryStart_0, fun q9 => ?_⟩
      refine AF.astore_n dL_entryStart_12 (by decide) ?_
      refine AF.iconst (nI 1) dL_entryStart_13 (by decide) ?_
      exact AF.ireturn dL_entryStart_14 rfl (e3 _ _ hp)
  · obtain ⟨e1, bv2, hC2, hx⟩ := q
    obtain ⟨hp, rfl⟩ := rx_n e1
    have ho2 := (hx.2.2 o h1 (Or.inr h2) h3).trans ho
    have h5 : ¬ o = bv2 := by have := hx.2.1; omega
    refine AF.i2l dL_entryStart_7 ?_
    refine AF.lastoreF 0 dL_entryStart_8 ho2 h4 rfl (by omega) (by decide) ?_
    intro F2 e9 h9 o9
    refine AF.goto 15 dL_entryStart_9 (by decide) ?_
    refine AF.iconst (nI 0) dL_entryStart_15 (by decide) ?_
    exact AF.ireturn dL_entryStart_16 rfl (WQ.n hC2 hx hp e9 h9 o9 h2 h5)
theorem hx_demandAfter_0 : HX mL_demandAfter 4 "java/lang/IllegalArgumentException" [] (0, 9, 12, 13) := ⟨⟨[], rfl⟩, fun z hz => absurd hz List.not_mem_nil, by decide +kernel, by decide, "java/lang/IllegalArgumentException", tb 460 (by decide +kernel), tb 568 (by decide +kernel)⟩
set_option maxRecDepth 100000 in
set_option maxHeartbeats 1000000 in
theorem L_demandAfter_ok {B o : Nat} {f : Nat → Int64} (hC : CX G F c bv X) (x : Int32) (ha : gN G ≤ c) (hI : SQ X.sg B) (hB : B + 40 ≤ 2 ^ 21) (ho : F.2 o = some (.inl (gC G 1, 1, .inr (.inl f)))) (h1 : o < F.1) (h2 : c + 131 ≤ o) (h3 : ¬ o = bv) (h4 : gN G ≤ o) : AC G mL_demandAfter 12 1 6 [.ref c, .int x, .ref o] F (WQ G c bv o X (if inB x 0 40 = true then 0 else 1) ((nI (dem (nxN X.sg (cl x)).J)).toInt64) F) := by
  have hpr : (if inB x 0 40 = true then 0 else 1) ≤ 1 := by split <;> omega
  have hK := X8_demandAfter_ok hC ha hI hB x
  obtain ⟨hn, hf, ⟨c0, -⟩, -⟩ := hC
  refine AC.ofH [some (.ref c), some (.int x), some (.ref o), none] rfl (by decide) (Nat.le_of_ble_eq_true rfl) rfl ?_
  refine AF.aload_n dL_demandAfter_0 rfl ?_
  refine AF.iconst (0) dL_demandAfter_1 (by decide) ?_
  refine AF.aload_n dL_demandAfter_2 rfl ?_
  refine AF.iload_n dL_demandAfter_3 rfl ?_
  refine AF.callVH (bc := 0) (bs := 0) (mc' := 1) (ms' := 6) dL_demandAfter_4 kv_L_108 hK c0 rfl rfl rfl (Nat.le_of_ble_eq_true rfl) (by decide) (fun E F' q => ?_) (fun v F' q => ?_)
  · obtain ⟨e1, e2⟩ := rx_x q.1
    have e3 := fun (z : Int64) => WQ.x (z := z) q ho h1 h2 h3
    rcases (by omega : (if inB x 0 40 = true then 0 else 1) = 1) with hp
    · rw [hp] at e2
      subst e2
      refine ⟨_, _, hx_demandAfter_0, fun q9 => ?_⟩
      refine AF.astore_n dL_demandAfter_12 (by decide) ?_
      refine AF.iconst (nI 1) dL_demandAfter_13 (by decide) ?_
      exact AF.ireturn dL_demandAfter_14 rfl (e3 _ _ hp)
  · obtain ⟨e1, bv2, hC2, hx⟩ := q
    obtain ⟨hp, rfl⟩ := rx_n e1
    have ho2 := (hx.2.2 o h1 (Or.inr h2) h3).trans ho
    have h5 : ¬ o = bv2 := by have := hx.2.1; omega
    refine AF.i2l dL_demandAfter_7 ?_
    refine AF.lastoreF 0 dL_demandAfter_8 ho2 h4 rfl (by omega) (by decide) ?_
    intro F2 e9 h9 o9
    refine AF.goto 15 dL_demandAfter_9 (by decide) ?_
    refine AF.iconst (nI 0) dL_demandAfter_15 (by decide) ?_
    exact AF.ireturn dL_demandAfter_16 rfl (WQ.n hC2 hx hp e9 h9 o9 h2 h5)
theorem hx_demandAfterBySteps_0 : HX mL_demandAfterBySteps 4 "java/lang/IllegalArgumentException" [] (0, 9, 12, 13) := ⟨⟨[], rfl⟩, fun z hz => absurd hz List.not_mem_nil, by decide +kernel, by decide, "java/lang/IllegalArgumentException", tb 460 (by decide +kernel), tb 568 (by decide +kernel)⟩
set_option maxRecDepth 100000 in
set_option maxHeartbeats 1000000 in
theorem L_demandAfterBySteps_ok {B o : Nat} {f : Nat → Int64} (hC : CX G F c bv X) (x : Int32) (hI : SQ X.sg B) (ho : F.2 o = some (.inl (gC G 1, 1, .inr (.inl f)))) (h1 : o < F.1) (h2 : c + 131 ≤ o) (h3 : ¬ o = bv) (h4 : gN G ≤ o) : AC G mL_demandAfterBySteps 12 1 6 [.ref c, .int x, .ref o] F (WQ G c bv o X (if inB x 0 40 = true then 0 else 1) ((nI (dem (nxN X.sg (cl x)).J)).toInt64) F) := by
  have hpr : (if inB x 0 40 = true then 0 else 1) ≤ 1 := by split <;> omega
  have hK := X8_demandAfterBySteps_ok hC hI x
  obtain ⟨hn, hf, ⟨c0, -⟩, -⟩ := hC
  refine AC.ofH [some (.ref c), some (.int x), some (.ref o), none] rfl (by decide) (Nat.le_of_ble_eq_true rfl) rfl ?_
  refine AF.aload_n dL_demandAfterBySteps_0 rfl ?_
  refine AF.iconst (0) dL_demandAfterBySteps_1 (by decide) ?_
  refine AF.aload_n dL_demandAfterBySteps_2 rfl ?_
  refine AF.iload_n dL_demandAfterBySteps_3 rfl ?_
  refine AF.callVH (bc := 0) (bs := 0) (mc' := 1) (ms' := 6) dL_demandAfterBySteps_4 kv_L_111 hK c0 rfl rfl rfl (Nat.le_of_ble_eq_true rfl) (by decide) (fun E F' q => ?_) (fun v F' q => ?_)
  · obtain ⟨e1, e2⟩ := rx_x q.1
    have e3 := fun (z : Int64) => WQ.x (z := z) q ho h1 h2 h3
    rcases (by omega : (if inB x 0 40 = true then 0 else 1) = 1) with hp
    · rw [hp] at e2
      subst e2
      refine ⟨_, _, hx_demandAfterBySteps_0, fun q9 => ?_⟩
      refine AF.astore_n dL_demandAfterBySteps_12 (by decide) ?_
      refine AF.iconst (nI 1) dL_demandAfterBySteps_13 (by decide) ?_
      exact AF.ireturn dL_demandAfterBySteps_14 rfl (e3 _ _ hp)
  · obtain ⟨e1, bv2, hC2, hx⟩ := q
    obtain ⟨hp, rfl⟩ := rx_n e1
    have ho2 := (hx.2.2 o h1 (Or.inr h2) h3).trans ho
    have h5 : ¬ o = bv2 := by have := hx.2.1; omega
    refine AF.i2l dL_demandAfterBySteps_7 ?_
    refine AF.lastoreF 0 dL_demandAfterBySteps_8 ho2 h4 rfl (by omega) (by decide) ?_
    intro F2 e9 h9 o9
    refine AF.goto 15 dL_demandAfterBySteps_9 (by decide) ?_
    refine AF.iconst (nI 0) dL_demandAfterBySteps_15 (by decide) ?_
    exact AF.ireturn dL_demandAfterBySteps_16 rfl (WQ.n hC2 hx hp e9 h9 o9 h2 h5)
theorem hx_firstOverload_0 : HX mL_firstOverload 4 "java/lang/IllegalArgumentException" [] (0, 9, 12, 13) := ⟨⟨[(0, 9, 15, 48)], rfl⟩, fun z hz => absurd hz List.not_mem_nil, by decide +kernel, by decide, "java/lang/IllegalArgumentException", tb 460 (by decide +kernel), tb 568 (by decide +kernel)⟩
theorem hx_firstOverload_1 : HX mL_firstOverload 4 "java/util/NoSuchElementException" [(0, 9, 12, 13)] (0, 9, 15, 48) := ⟨⟨[], rfl⟩, (fun z hz => by
    rcases (by simpa using hz : z = (0, 9, 12, 13)) with rfl
    · exact ⟨by decide, "java/lang/IllegalArgumentException", tb 460 (by decide +kernel), by decide +kernel⟩), by decide +kernel, by decide, "java/util/NoSuchElementException", tb 735 (by decide +kernel), tb 746 (by decide +kernel)⟩
set_option maxRecDepth 100000 in
set_option maxHeartbeats 1000000 in
theorem L_firstOverload_ok {B o : Nat} {f : Nat → Int64} (hC : CX G F c bv X) (x : Int32) (ha : gN G ≤ c) (hI : SQ X.sg B) (hB : B + 40 ≤ 2 ^ 21) (ho : F.2 o = some (.inl (gC G 1, 1, .inr (.inl f)))) (h1 : o < F.1) (h2 : c + 131 ≤ o) (h3 : ¬ o = bv) (h4 : gN G ≤ o) : AC G mL_firstOverload 12 2 12 [.ref c, .int x, .ref o] F (WQ G c bv o X (if inB x 0 40 = true then (if (fov X.sg (cl x)).isSome = true then 0 else 2) else 1) ((nI ((fov X.sg (cl x)).getD 0 + 1)).toInt64) F) := by
  have hpr : (if inB x 0 40 = true then (if (fov X.sg (cl x)).isSome = true then 0 else 2) else 1) ≤ 2 := by split <;> (try split) <;> omega
  have hK := X8_firstOverload_ok hC ha hI hB x
  obtain ⟨hn, hf, ⟨c0, -⟩, -⟩ := hC
  refine AC.ofH [some (.ref c), some (.int x), some (.ref o), none] rfl (by decide) (Nat.le_of_ble_eq_true rfl) rfl ?_
  refine AF.aload_n dL_firstOverload_0 rfl ?_
  refine AF.iconst (0) dL_firstOverload_1 (by decide) ?_
  refine AF.aload_n dL_firstOverload_2 rfl ?_
  refine AF.iload_n dL_firstOverload_3 rfl ?_
  refine AF.callVH (bc := 0) (bs := 0) (mc' := 2) (ms' := 12) dL_firstOverload_4 kv_L_114 hK c0 rfl rfl rfl (Nat.le_of_ble_eq_true rfl) (by decide) (fun E F' q => ?_) (fun v F' q => ?_)
  · obtain ⟨e1, e2⟩ := rx_x q.1
    have e3 := fun (z : Int64) => WQ.x (z := z) q ho h1 h2 h3
    rcases (by omega : (if inB x 0 40 = true then (if (fov X.sg (cl x)).isSome = true then 0 else 2) else 1) = 1 ∨ (if inB x 0 40 = true then (if (fov X.sg (cl x)).isSome = true then 0 else 2) else 1) = 2) with hp | hp
    · rw [hp] at e2
      subst e2
      refine ⟨_, _, hx_firstOverload_0, fun q9 => ?_⟩
      refine AF.astore_n dL_firstOverload_12 (by decide) ?_
      refine AF.iconst (nI 1) dL_firstOverload_13 (by decide) ?_
      exact AF.ireturn dL_firstOverload_14 rfl (e3 _ _ hp)
    · rw [hp] at e2
      subst e2
      refine ⟨_, _, hx_firstOverload_1, fun q9 => ?_⟩
      refine AF.astore_n dL_firstOverload_15 (by decide) ?_
      refine AF.iconst (nI 2) dL_firstOverload_16 (by decide) ?_
      exact AF.ireturn dL_firstOverload_17 rfl (e3 _ _ hp)
  · obtain ⟨e1, bv2, hC2, hx⟩ := q
    obtain ⟨hp, rfl⟩ := rx_n e1
    have ho2 := (hx.2.2 o h1 (Or.inr h2) h3).trans ho
    have h5 : ¬ o = bv2 := by have := hx.2.1; omega
    refine AF.i2l dL_firstOverload_7 ?_
    refine AF.lastoreF 0 dL_firstOverload_8 ho2 h4 rfl (by omega) (by decide) ?_
    intro F2 e9 h9 o9
    refine AF.goto 18 dL_firstOverload_9 (by decide) ?_
    refine AF.iconst (nI 0) dL_firstOverload_18 (by decide) ?_
    exact AF.ireturn dL_firstOverload_19 rfl (WQ.n hC2 hx hp e9 h9 o9 h2 h5)
theorem hx_meanOpening_0 : HX mL_meanOpening 3 "java/lang/ArithmeticException" [] (0, 7, 10, 121) := ⟨⟨[], rfl⟩, fun z hz => absurd hz List.not_mem_nil, by decide +kernel, by decide, "java/lang/ArithmeticException", tb 1054 (by decide +kernel), tb 1066 (by decide +kernel)⟩
set_option maxRecDepth 100000 in
set_option maxHeartbeats 1000000 in
theorem L_meanOpening_ok {B o : Nat} {f : Nat → UInt64} (hC : CX G F c bv X) (hI : SQ X.sg B) (ho : F.2 o = some (.inl (gC G 3, 1, .inr (.inr (.inr (.inl f)))))) (h1 : o < F.1) (h2 : c + 131 ≤ o) (h3 : ¬ o = bv) (h4 : gN G ≤ o) : AC G mL_meanOpening 12 1 6 [.ref c, .ref o] F (WQD G c bv o X (if X.sg.J.length = 0 then 1 else 0) (FP.ddiv (FP.i2d (nI (dem X.sg.J))) (FP.i2d (nI X.sg.J.length))) F) := by
  have hpr : (if X.sg.J.length = 0 then 1 else 0) ≤ 1 := by split <;> omega
  have hK := X8_meanOpening_ok hC hI
  obtain ⟨hn, hf, ⟨c0, -⟩, -⟩ := hC
  refine AC.ofH [some (.ref c), some (.ref o), none] rfl (by decide) (Nat.le_of_ble_eq_true rfl) rfl ?_
  refine AF.aload_n dL_meanOpening_0 rfl ?_
  refine AF.iconst (0) dL_meanOpening_1 (by decide) ?_
  refine AF.aload_n dL_meanOpening_2 rfl ?_
  refine AF.callVH (bc := 0) (bs := 0) (mc' := 1) (ms' := 6) dL_meanOpening_3 kv_L_117 hK c0 rfl rfl rfl (Nat.le_of_ble_eq_true rfl) (by decide) (fun E F' q => ?_) (fun v F' q => ?_)
  · obtain ⟨e1, e2⟩ := rx_x q.1
    have e3 := fun (z : UInt64) => WQD.x (zd := z) q ho h1 h2 h3
    rcases (by omega : (if X.sg.J.length = 0 then 1 else 0) = 1) with hp
    · rw [hp] at e2
      subst e2
      refine ⟨_, _, hx_meanOpening_0, fun q9 => ?_⟩
      refine AF.astore_n dL_meanOpening_10 (by decide) ?_
      refine AF.iconst (nI 1) dL_meanOpening_11 (by decide) ?_
      exact AF.ireturn dL_meanOpening_12 rfl (e3 _ _ hp)
  · obtain ⟨e1, bv2, hC2, hx⟩ := q
    obtain ⟨hp, rfl⟩ := rx_n e1
    have ho2 := (hx.2.2 o h1 (Or.inr h2) h3).trans ho
    have h5 : ¬ o = bv2 := by have := hx.2.1; omega
    refine AF.dastoreF 0 dL_meanOpening_6 ho2 h4 rfl (by omega) (by decide) ?_
    intro F2 e9 h9 o9
    refine AF.goto 13 dL_meanOpening_7 (by decide) ?_
    refine AF.iconst (nI 0) dL_meanOpening_13 (by decide) ?_
    exact AF.ireturn dL_meanOpening_14 rfl (WQD.n hC2 hx hp e9 h9 o9 h2 h5)
theorem hx_supplyFraction_0 : HX mL_supplyFraction 3 "java/lang/ArithmeticException" [] (0, 8, 11, 121) := ⟨⟨[], rfl⟩, fun z hz => absurd hz List.not_mem_nil, by decide +kernel, by decide, "java/lang/ArithmeticException", tb 1054 (by decide +kernel), tb 1066 (by decide +kernel)⟩
set_option maxRecDepth 100000 in
set_option maxHeartbeats 1000000 in
theorem L_supplyFraction_ok {B o : Nat} {f : Nat → UInt64} (hC : CX G F c bv X) (hI : SQ X.sg B) (ho : F.2 o = some (.inl (gC G 3, 1, .inr (.inr (.inr (.inl f)))))) (h1 : o < F.1) (h2 : c + 131 ≤ o) (h3 : ¬ o = bv) (h4 : gN G ≤ o) : AC G mL_supplyFraction 12 1 6 [.ref c, .ref o] F (WQD G c bv o X (if dem X.sg.J = 0 then 1 else 0) (FP.f2d (FP.fdiv (FP.i2f (nI (sup X.sg.J X.sg.cap))) (FP.i2f (nI (dem X.sg.J))))) F) := by
  have hpr : (if dem X.sg.J = 0 then 1 else 0) ≤ 1 := by split <;> omega
  have hfn : ¬ dem X.sg.J = 0 → vf_n64 (FP.f2d (FP.fdiv (FP.i2f (nI (sup X.sg.J X.sg.cap))) (FP.i2f (nI (dem X.sg.J))))) := fun q => (flt_f (dem X.sg.J) (by have := dem_le hI.1.1 hI.2.2.1; omega) (sup X.sg.J X.sg.cap) (by have := sup_le (J := X.sg.J) (cap := X.sg.cap); omega) (by omega)).2.1
  have hK := X8_supplyFraction_ok hC hI
  obtain ⟨hn, hf, ⟨c0, -⟩, -⟩ := hC
  refine AC.ofH [some (.ref c), some (.ref o), none] rfl (by decide) (Nat.le_of_ble_eq_true rfl) rfl ?_
  refine AF.aload_n dL_supplyFraction_0 rfl ?_
  refine AF.iconst (0) dL_supplyFraction_1 (by decide) ?_
  refine AF.aload_n dL_supplyFraction_2 rfl ?_
  refine AF.callVH (bc := 0) (bs := 0) (mc' := 1) (ms' := 6) dL_supplyFraction_3 kv_L_123 hK c0 rfl rfl rfl (Nat.le_of_ble_eq_true rfl) (by decide) (fun E F' q => ?_) (fun v F' q => ?_)
  · obtain ⟨e1, e2⟩ := rx_x q.1
    have e3 := fun (z : UInt64) => WQD.x (zd := z) q ho h1 h2 h3
    rcases (by omega : (if dem X.sg.J = 0 then 1 else 0) = 1) with hp
    · rw [hp] at e2
      subst e2
      refine ⟨_, _, hx_supplyFraction_0, fun q9 => ?_⟩
      refine AF.astore_n dL_supplyFraction_11 (by decide) ?_
      refine AF.iconst (nI 1) dL_supplyFraction_12 (by decide) ?_
      exact AF.ireturn dL_supplyFraction_13 rfl (e3 _ _ hp)
  · obtain ⟨e1, bv2, hC2, hx⟩ := q
    obtain ⟨hp, rfl⟩ := rx_n e1
    have ho2 := (hx.2.2 o h1 (Or.inr h2) h3).trans ho
    have h5 : ¬ o = bv2 := by have := hx.2.1; omega
    have hfn2 := hfn (fun q => by rw [if_pos q] at hp; cases hp)
    refine AF.f2d dL_supplyFraction_6 hfn2 ?_
    refine AF.dastoreF 0 dL_supplyFraction_7 ho2 h4 rfl (by omega) (by decide) ?_
    intro F2 e9 h9 o9
    refine AF.goto 14 dL_supplyFraction_8 (by decide) ?_
    refine AF.iconst (nI 0) dL_supplyFraction_14 (by decide) ?_
    exact AF.ireturn dL_supplyFraction_15 rfl (WQD.n hC2 hx hp e9 h9 o9 h2 h5)
theorem hx_writeFigure_0 : HX mL_writeFigure 4 "java/lang/IndexOutOfBoundsException" [] (0, 9, 12, 22) := ⟨⟨[], rfl⟩, fun z hz => absurd hz List.not_mem_nil, by decide +kernel, by decide, "java/lang/IndexOutOfBoundsException", tb 621 (by decide +kernel), tb 496 (by decide +kernel)⟩
set_option maxRecDepth 100000 in
set_option maxHeartbeats 1000000 in
theorem L_writeFigure_ok {B o : Nat} {f : Nat → Int64} (hC : CX G F c bv X) (x : Int32) (ha : gN G ≤ c) (hz : c + 131 ≤ F.1) (hI : SQ X.sg B) (ho : F.2 o = some (.inl (gC G 1, 1, .inr (.inl f)))) (h1 : o < F.1) (h2 : c + 131 ≤ o) (h3 : ¬ o = bv) (h4 : gN G ≤ o) : AC G mL_writeFigure 12 50 6964 [.ref c, .int x, .ref o] F (WQ G c bv o (if hasB X.sg.Fg.length x = true then wrX X (cl x) else X) (if hasB X.sg.Fg.length x = true then 0 else 1) ((nI (wrF (fg X.sg.Fg (cl x)) (fg X.sg.Fg (cl x)).length).length).toInt64) F) := by
  have hpr : (if hasB X.sg.Fg.length x = true then 0 else 1) ≤ 1 := by split <;> omega
  have hK := X8_writeFigure_ok hC ha hz hI x
  obtain ⟨hn, hf, ⟨c0, -⟩, -⟩ := hC
  refine AC.ofH [some (.ref c), some (.int x), some (.ref o), none] rfl (by decide) (Nat.le_of_ble_eq_true rfl) rfl ?_
  refine AF.aload_n dL_writeFigure_0 rfl ?_
  refine AF.iconst (0) dL_writeFigure_1 (by decide) ?_
  refine AF.aload_n dL_writeFigure_2 rfl ?_
  refine AF.iload_n dL_writeFigure_3 rfl ?_
  refine AF.callVH (bc := 0) (bs := 0) (mc' := 50) (ms' := 6964) dL_writeFigure_4 kv_L_127 hK c0 rfl rfl rfl (Nat.le_of_ble_eq_true rfl) (by decide) (fun E F' q => ?_) (fun v F' q => ?_)
  · obtain ⟨e1, e2⟩ := rx_x q.1
    have e3 := fun (z : Int64) => WQ.x (z := z) q ho h1 h2 h3
    rcases (by omega : (if hasB X.sg.Fg.length x = true then 0 else 1) = 1) with hp
    · rw [hp] at e2
      subst e2
      refine ⟨_, _, hx_writeFigure_0, fun q9 => ?_⟩
      refine AF.astore_n dL_writeFigure_12 (by decide) ?_
      refine AF.iconst (nI 1) dL_writeFigure_13 (by decide) ?_
      exact AF.ireturn dL_writeFigure_14 rfl (e3 _ _ hp)
  · obtain ⟨e1, bv2, hC2, hx⟩ := q
    obtain ⟨hp, rfl⟩ := rx_n e1
    have ho2 := (hx.2.2 o h1 (Or.inr h2) h3).trans ho
    have h5 : ¬ o = bv2 := by have := hx.2.1; omega
    refine AF.i2l dL_writeFigure_7 ?_
    refine AF.lastoreF 0 dL_writeFigure_8 ho2 h4 rfl (by omega) (by decide) ?_
    intro F2 e9 h9 o9
    refine AF.goto 15 dL_writeFigure_9 (by decide) ?_
    refine AF.iconst (nI 0) dL_writeFigure_15 (by decide) ?_
    exact AF.ireturn dL_writeFigure_16 rfl (WQ.n hC2 hx hp e9 h9 o9 h2 h5)
theorem hx_outputCharacter_0 : HX mL_outputCharacter 4 "java/lang/IndexOutOfBoundsException" [] (0, 9, 12, 22) := ⟨⟨[], rfl⟩, fun z hz => absurd hz List.not_mem_nil, by decide +kernel, by decide, "java/lang/IndexOutOfBoundsException", tb 621 (by decide +kernel), tb 496 (by decide +kernel)⟩
set_option maxRecDepth 100000 in
set_option maxHeartbeats 1000000 in
theorem L_outputCharacter_ok {B o : Nat} {f : Nat → Int64} (hC : CX G F c bv X) (x : Int32) (hX : XI X B) (ho : F.2 o = some (.inl (gC G 1, 1, .inr (.inl f)))) (h1 : o < F.1) (h2 : c + 131 ≤ o) (h3 : ¬ o = bv) (h4 : gN G ≤ o) : AC G mL_outputCharacter 12 1 6 [.ref c, .int x, .ref o] F (WQ G c bv o X (if hasB X.ou.length x = true then 0 else 1) ((X.ou.getD (cl x) 0).toInt64) F) := by
  have hpr : (if hasB X.ou.length x = true then 0 else 1) ≤ 1 := by split <;> omega
  have hK := X8_outputCharacter_ok hC hX x
  obtain ⟨hn, hf, ⟨c0, -⟩, -⟩ := hC
  refine AC.ofH [some (.ref c), some (.int x), some (.ref o), none] rfl (by decide) (Nat.le_of_ble_eq_true rfl) rfl ?_
  refine AF.aload_n dL_outputCharacter_0 rfl ?_
  refine AF.iconst (0) dL_outputCharacter_1 (by decide) ?_
  refine AF.aload_n dL_outputCharacter_2 rfl ?_
  refine AF.iload_n dL_outputCharacter_3 rfl ?_
  refine AF.callVH (bc := 0) (bs := 0) (mc' := 1) (ms' := 6) dL_outputCharacter_4 kv_L_130 hK c0 rfl rfl rfl (Nat.le_of_ble_eq_true rfl) (by decide) (fun E F' q => ?_) (fun v F' q => ?_)
  · obtain ⟨e1, e2⟩ := rx_x q.1
    have e3 := fun (z : Int64) => WQ.x (z := z) q ho h1 h2 h3
    rcases (by omega : (if hasB X.ou.length x = true then 0 else 1) = 1) with hp
    · rw [hp] at e2
      subst e2
      refine ⟨_, _, hx_outputCharacter_0, fun q9 => ?_⟩
      refine AF.astore_n dL_outputCharacter_12 (by decide) ?_
      refine AF.iconst (nI 1) dL_outputCharacter_13 (by decide) ?_
      exact AF.ireturn dL_outputCharacter_14 rfl (e3 _ _ hp)
  · obtain ⟨e1, bv2, hC2, hx⟩ := q
    obtain ⟨hp, rfl⟩ := rx_n e1
    have ho2 := (hx.2.2 o h1 (Or.inr h2) h3).trans ho
    have h5 : ¬ o = bv2 := by have := hx.2.1; omega
    refine AF.i2l dL_outputCharacter_7 ?_
    refine AF.lastoreF 0 dL_outputCharacter_8 ho2 h4 rfl (by omega) (by decide) ?_
    intro F2 e9 h9 o9
    refine AF.goto 15 dL_outputCharacter_9 (by decide) ?_
    refine AF.iconst (nI 0) dL_outputCharacter_15 (by decide) ?_
    exact AF.ireturn dL_outputCharacter_16 rfl (WQ.n hC2 hx hp e9 h9 o9 h2 h5)
theorem hx_feed_0 : HX mL_feed 4 "java/lang/IllegalStateException" [] (0, 9, 12, 17) := ⟨⟨[], rfl⟩, fun z hz => absurd hz List.not_mem_nil, by decide +kernel, by decide, "java/lang/IllegalStateException", tb 462 (by decide +kernel), tb 600 (by decide +kernel)⟩
set_option maxRecDepth 100000 in
set_option maxHeartbeats 1000000 in
theorem L_feed_ok {B o : Nat} {f : Nat → Int64} (hC : CX G F c bv X) (x : Int32) (ha : gN G ≤ c) (hc : vp_nar .char x = x) (ho : F.2 o = some (.inl (gC G 1, 1, .inr (.inl f)))) (h1 : o < F.1) (h2 : c + 131 ≤ o) (h3 : ¬ o = bv) (h4 : gN G ≤ o) : AC G mL_feed 12 1 6 [.ref c, .int x, .ref o] F (WQ G c bv o (fdX X x) (if X.tx.length = 60 then 1 else 0) ((nI (X.tx.length + 1)).toInt64) F) := by
  have hpr : (if X.tx.length = 60 then 1 else 0) ≤ 1 := by split <;> omega
  have hK := X8_feed_ok hC ha x hc
  obtain ⟨hn, hf, ⟨c0, -⟩, -⟩ := hC
  refine AC.ofH [some (.ref c), some (.int x), some (.ref o), none] rfl (by decide) (Nat.le_of_ble_eq_true rfl) rfl ?_
  refine AF.aload_n dL_feed_0 rfl ?_
  refine AF.iconst (0) dL_feed_1 (by decide) ?_
  refine AF.aload_n dL_feed_2 rfl ?_
  refine AF.iload_n dL_feed_3 rfl ?_
  refine AF.callVH (bc := 0) (bs := 0) (mc' := 1) (ms' := 6) dL_feed_4 kv_L_134 hK c0 rfl rfl rfl (Nat.le_of_ble_eq_true rfl) (by decide) (fun E F' q => ?_) (fun v F' q => ?_)
  · obtain ⟨e1, e2⟩ := rx_x q.1
    have e3 := fun (z : Int64) => WQ.x (z := z) q ho h1 h2 h3
    rcases (by omega : (if X.tx.length = 60 then 1 else 0) = 1) with hp
    · rw [hp] at e2
      subst e2
      refine ⟨_, _, hx_feed_0, fun q9 => ?_⟩
      refine AF.astore_n dL_feed_12 (by decide) ?_
      refine AF.iconst (nI 1) dL_feed_13 (by decide) ?_
      exact AF.ireturn dL_feed_14 rfl (e3 _ _ hp)
  · obtain ⟨e1, bv2, hC2, hx⟩ := q
    obtain ⟨hp, rfl⟩ := rx_n e1
    have ho2 := (hx.2.2 o h1 (Or.inr h2) h3).trans ho
    have h5 : ¬ o = bv2 := by have := hx.2.1; omega
    refine AF.i2l dL_feed_7 ?_
    refine AF.lastoreF 0 dL_feed_8 ho2 h4 rfl (by omega) (by decide) ?_
    intro F2 e9 h9 o9
    refine AF.goto 15 dL_feed_9 (by decide) ?_
    refine AF.iconst (nI 0) dL_feed_15 (by decide) ?_
    exact AF.ireturn dL_feed_16 rfl (WQ.n hC2 hx hp e9 h9 o9 h2 h5)
theorem hx_execute_0 : HX mL_execute 3 "java/lang/IllegalArgumentException" [] (0, 8, 11, 13) := ⟨⟨[(0, 8, 14, 15)], rfl⟩, fun z hz => absurd hz List.not_mem_nil, by decide +kernel, by decide, "java/lang/IllegalArgumentException", tb 460 (by decide +kernel), tb 568 (by decide +kernel)⟩
theorem hx_execute_1 : HX mL_execute 3 "java/lang/UnsupportedOperationException" [(0, 8, 11, 13)] (0, 8, 14, 15) := ⟨⟨[], rfl⟩, (fun z hz => by
    rcases (by simpa using hz : z = (0, 8, 11, 13)) with rfl
    · exact ⟨by decide, "java/lang/IllegalArgumentException", tb 460 (by decide +kernel), by decide +kernel⟩), by decide +kernel, by decide, "java/lang/UnsupportedOperationException", tb 461 (by decide +kernel), tb 584 (by decide +kernel)⟩
set_option maxRecDepth 100000 in
set_option maxHeartbeats 1000000 in
theorem L_execute_ok {B o : Nat} {f : Nat → Int64} (hC : CX G F c bv X) (ha : gN G ≤ c) (hI : SQ X.sg B) (hB : B + 2480 ≤ 2 ^ 21) (ho : F.2 o = some (.inl (gC G 1, 1, .inr (.inl f)))) (h1 : o < F.1) (h2 : c + 131 ≤ o) (h3 : ¬ o = bv) (h4 : gN G ≤ o) : AC G mL_execute 12 1 6 [.ref c, .ref o] F (WQ G c bv o (exX X) (exC X) ((nI (exP X).2.2.length).toInt64) F) := by
  have hpr : (exC X) ≤ 2 := by exact exC_le
  have hK := X8_execute_ok hC ha hI hB
  obtain ⟨hn, hf, ⟨c0, -⟩, -⟩ := hC
  refine AC.ofH [some (.ref c), some (.ref o), none] rfl (by decide) (Nat.le_of_ble_eq_true rfl) rfl ?_
  refine AF.aload_n dL_execute_0 rfl ?_
  refine AF.iconst (0) dL_execute_1 (by decide) ?_
  refine AF.aload_n dL_execute_2 rfl ?_
  refine AF.callVH (bc := 0) (bs := 0) (mc' := 1) (ms' := 6) dL_execute_3 kv_L_138 hK c0 rfl rfl rfl (Nat.le_of_ble_eq_true rfl) (by decide) (fun E F' q => ?_) (fun v F' q => ?_)
  · obtain ⟨e1, e2⟩ := rx_x q.1
    have e3 := fun (z : Int64) => WQ.x (z := z) q ho h1 h2 h3
    rcases (by omega : (exC X) = 1 ∨ (exC X) = 2) with hp | hp
    · rw [hp] at e2
      subst e2
      refine ⟨_, _, hx_execute_0, fun q9 => ?_⟩
      refine AF.astore_n dL_execute_11 (by decide) ?_
      refine AF.iconst (nI 1) dL_execute_12 (by decide) ?_
      exact AF.ireturn dL_execute_13 rfl (e3 _ _ hp)
    · rw [hp] at e2
      subst e2
      refine ⟨_, _, hx_execute_1, fun q9 => ?_⟩
      refine AF.astore_n dL_execute_14 (by decide) ?_
      refine AF.iconst (nI 2) dL_execute_15 (by decide) ?_
      exact AF.ireturn dL_execute_16 rfl (e3 _ _ hp)
  · obtain ⟨e1, bv2, hC2, hx⟩ := q
    obtain ⟨hp, rfl⟩ := rx_n e1
    have ho2 := (hx.2.2 o h1 (Or.inr h2) h3).trans ho
    have h5 : ¬ o = bv2 := by have := hx.2.1; omega
    refine AF.i2l dL_execute_6 ?_
    refine AF.lastoreF 0 dL_execute_7 ho2 h4 rfl (by omega) (by decide) ?_
    intro F2 e9 h9 o9
    refine AF.goto 17 dL_execute_8 (by decide) ?_
    refine AF.iconst (nI 0) dL_execute_17 (by decide) ?_
    exact AF.ireturn dL_execute_18 rfl (WQ.n hC2 hx hp e9 h9 o9 h2 h5)
theorem hx_errorPosition_0 : HX mL_errorPosition 3 "java/util/NoSuchElementException" [] (0, 8, 11, 48) := ⟨⟨[], rfl⟩, fun z hz => absurd hz List.not_mem_nil, by decide +kernel, by decide, "java/util/NoSuchElementException", tb 735 (by decide +kernel), tb 746 (by decide +kernel)⟩
set_option maxRecDepth 100000 in
set_option maxHeartbeats 1000000 in
theorem L_errorPosition_ok {B o : Nat} {f : Nat → Int64} (hC : CX G F c bv X) (ho : F.2 o = some (.inl (gC G 1, 1, .inr (.inl f)))) (h1 : o < F.1) (h2 : c + 131 ≤ o) (h3 : ¬ o = bv) (h4 : gN G ≤ o) : AC G mL_errorPosition 12 1 6 [.ref c, .ref o] F (WQ G c bv o X (if X.er = -1 then 1 else 0) ((X.er).toInt64) F) := by
  have hpr : (if X.er = -1 then 1 else 0) ≤ 1 := by split <;> omega
  have hK := X8_errorPosition_ok hC
  obtain ⟨hn, hf, ⟨c0, -⟩, -⟩ := hC
  refine AC.ofH [some (.ref c), some (.ref o), none] rfl (by decide) (Nat.le_of_ble_eq_true rfl) rfl ?_
  refine AF.aload_n dL_errorPosition_0 rfl ?_
  refine AF.iconst (0) dL_errorPosition_1 (by decide) ?_
  refine AF.aload_n dL_errorPosition_2 rfl ?_
  refine AF.callVH (bc := 0) (bs := 0) (mc' := 1) (ms' := 6) dL_errorPosition_3 kv_L_141 hK c0 rfl rfl rfl (Nat.le_of_ble_eq_true rfl) (by decide) (fun E F' q => ?_) (fun v F' q => ?_)
  · obtain ⟨e1, e2⟩ := rx_x q.1
    have e3 := fun (z : Int64) => WQ.x (z := z) q ho h1 h2 h3
    rcases (by omega : (if X.er = -1 then 1 else 0) = 1) with hp
    · rw [hp] at e2
      subst e2
      refine ⟨_, _, hx_errorPosition_0, fun q9 => ?_⟩
      refine AF.astore_n dL_errorPosition_11 (by decide) ?_
      refine AF.iconst (nI 1) dL_errorPosition_12 (by decide) ?_
      exact AF.ireturn dL_errorPosition_13 rfl (e3 _ _ hp)
  · obtain ⟨e1, bv2, hC2, hx⟩ := q
    obtain ⟨hp, rfl⟩ := rx_n e1
    have ho2 := (hx.2.2 o h1 (Or.inr h2) h3).trans ho
    have h5 : ¬ o = bv2 := by have := hx.2.1; omega
    refine AF.i2l dL_errorPosition_6 ?_
    refine AF.lastoreF 0 dL_errorPosition_7 ho2 h4 rfl (by omega) (by decide) ?_
    intro F2 e9 h9 o9
    refine AF.goto 14 dL_errorPosition_8 (by decide) ?_
    refine AF.iconst (nI 0) dL_errorPosition_14 (by decide) ?_
    exact AF.ireturn dL_errorPosition_15 rfl (WQ.n hC2 hx hp e9 h9 o9 h2 h5)
theorem hx_failedCommand_0 : HX mL_failedCommand 3 "java/util/NoSuchElementException" [] (0, 8, 11, 48) := ⟨⟨[], rfl⟩, fun z hz => absurd hz List.not_mem_nil, by decide +kernel, by decide, "java/util/NoSuchElementException", tb 735 (by decide +kernel), tb 746 (by decide +kernel)⟩
set_option maxRecDepth 100000 in
set_option maxHeartbeats 1000000 in
theorem L_failedCommand_ok {B o : Nat} {f : Nat → Int64} (hC : CX G F c bv X) (ho : F.2 o = some (.inl (gC G 1, 1, .inr (.inl f)))) (h1 : o < F.1) (h2 : c + 131 ≤ o) (h3 : ¬ o = bv) (h4 : gN G ≤ o) : AC G mL_failedCommand 12 1 6 [.ref c, .ref o] F (WQ G c bv o X (if X.fa = -1 then 1 else 0) ((X.fa).toInt64) F) := by
  have hpr : (if X.fa = -1 then 1 else 0) ≤ 1 := by split <;> omega
  have hK := X8_failedCommand_ok hC
  obtain ⟨hn, hf, ⟨c0, -⟩, -⟩ := hC
  refine AC.ofH [some (.ref c), some (.ref o), none] rfl (by decide) (Nat.le_of_ble_eq_true rfl) rfl ?_
  refine AF.aload_n dL_failedCommand_0 rfl ?_
  refine AF.iconst (0) dL_failedCommand_1 (by decide) ?_
  refine AF.aload_n dL_failedCommand_2 rfl ?_
  refine AF.callVH (bc := 0) (bs := 0) (mc' := 1) (ms' := 6) dL_failedCommand_3 kv_L_144 hK c0 rfl rfl rfl (Nat.le_of_ble_eq_true rfl) (by decide) (fun E F' q => ?_) (fun v F' q => ?_)
  · obtain ⟨e1, e2⟩ := rx_x q.1
    have e3 := fun (z : Int64) => WQ.x (z := z) q ho h1 h2 h3
    rcases (by omega : (if X.fa = -1 then 1 else 0) = 1) with hp
    · rw [hp] at e2
      subst e2
      refine ⟨_, _, hx_failedCommand_0, fun q9 => ?_⟩
      refine AF.astore_n dL_failedCommand_11 (by decide) ?_
      refine AF.iconst (nI 1) dL_failedCommand_12 (by decide) ?_
      exact AF.ireturn dL_failedCommand_13 rfl (e3 _ _ hp)
  · obtain ⟨e1, bv2, hC2, hx⟩ := q
    obtain ⟨hp, rfl⟩ := rx_n e1
    have ho2 := (hx.2.2 o h1 (Or.inr h2) h3).trans ho
    have h5 : ¬ o = bv2 := by have := hx.2.1; omega
    refine AF.i2l dL_failedCommand_6 ?_
    refine AF.lastoreF 0 dL_failedCommand_7 ho2 h4 rfl (by omega) (by decide) ?_
    intro F2 e9 h9 o9
    refine AF.goto 14 dL_failedCommand_8 (by decide) ?_
    refine AF.iconst (nI 0) dL_failedCommand_14 (by decide) ?_
    exact AF.ireturn dL_failedCommand_15 rfl (WQ.n hC2 hx hp e9 h9 o9 h2 h5)
theorem hx_undo_0 : HX mL_undo 3 "java/lang/IllegalStateException" [] (0, 8, 11, 17) := ⟨⟨[], rfl⟩, fun z hz => absurd hz List.not_mem_nil, by decide +kernel, by decide, "java/lang/IllegalStateException", tb 462 (by decide +kernel), tb 600 (by decide +kernel)⟩
set_option maxRecDepth 100000 in
set_option maxHeartbeats 1000000 in
theorem L_undo_ok {B o : Nat} {f : Nat → Int64} (hC : CX G F c bv X) (ha : gN G ≤ c) (ho : F.2 o = some (.inl (gC G 1, 1, .inr (.inl f)))) (h1 : o < F.1) (h2 : c + 131 ≤ o) (h3 : ¬ o = bv) (h4 : gN G ≤ o) : AC G mL_undo 12 1 6 [.ref c, .ref o] F (WQ G c bv o (unX X) (if X.hs.length = 0 then 1 else 0) ((nI (X.hs.length - 1)).toInt64) F) := by
  have hpr : (if X.hs.length = 0 then 1 else 0) ≤ 1 := by split <;> omega
  have hK := X8_undo_ok hC ha
  obtain ⟨hn, hf, ⟨c0, -⟩, -⟩ := hC
  refine AC.ofH [some (.ref c), some (.ref o), none] rfl (by decide) (Nat.le_of_ble_eq_true rfl) rfl ?_
  refine AF.aload_n dL_undo_0 rfl ?_
  refine AF.iconst (0) dL_undo_1 (by decide) ?_
  refine AF.aload_n dL_undo_2 rfl ?_
  refine AF.callVH (bc := 0) (bs := 0) (mc' := 1) (ms' := 6) dL_undo_3 kv_L_147 hK c0 rfl rfl rfl (Nat.le_of_ble_eq_true rfl) (by decide) (fun E F' q => ?_) (fun v F' q => ?_)
  · obtain ⟨e1, e2⟩ := rx_x q.1
    have e3 := fun (z : Int64) => WQ.x (z := z) q ho h1 h2 h3
    rcases (by omega : (if X.hs.length = 0 then 1 else 0) = 1) with hp
    · rw [hp] at e2
      subst e2
      refine ⟨_, _, hx_undo_0, fun q9 => ?_⟩
      refine AF.astore_n dL_undo_11 (by decide) ?_
      refine AF.iconst (nI 1) dL_undo_12 (by decide) ?_
      exact AF.ireturn dL_undo_13 rfl (e3 _ _ hp)
  · obtain ⟨e1, bv2, hC2, hx⟩ := q
    obtain ⟨hp, rfl⟩ := rx_n e1
    have ho2 := (hx.2.2 o h1 (Or.inr h2) h3).trans ho
    have h5 : ¬ o = bv2 := by have := hx.2.1; omega
    refine AF.i2l dL_undo_6 ?_
    refine AF.lastoreF 0 dL_undo_7 ho2 h4 rfl (by omega) (by decide) ?_
    intro F2 e9 h9 o9
    refine AF.goto 14 dL_undo_8 (by decide) ?_
    refine AF.iconst (nI 0) dL_undo_14 (by decide) ?_
    exact AF.ireturn dL_undo_15 rfl (WQ.n hC2 hx hp e9 h9 o9 h2 h5)
theorem hx_restore_0 : HX mL_restore 3 "java/lang/IllegalStateException" [] (0, 8, 11, 17) := ⟨⟨[], rfl⟩, fun z hz => absurd hz List.not_mem_nil, by decide +kernel, by decide, "java/lang/IllegalStateException", tb 462 (by decide +kernel), tb 600 (by decide +kernel)⟩
set_option maxRecDepth 100000 in
set_option maxHeartbeats 1000000 in
theorem L_restore_ok {B o : Nat} {f : Nat → Int64} (hC : CX G F c bv X) (ha : gN G ≤ c) (ho : F.2 o = some (.inl (gC G 1, 1, .inr (.inl f)))) (h1 : o < F.1) (h2 : c + 131 ≤ o) (h3 : ¬ o = bv) (h4 : gN G ≤ o) : AC G mL_restore 12 1 6 [.ref c, .ref o] F (WQ G c bv o (reX X) (if X.sv.isSome = true then 0 else 1) ((nI (X.sv.getD s0).J.length).toInt64) F) := by
  have hpr : (if X.sv.isSome = true then 0 else 1) ≤ 1 := by split <;> omega
  have hK := X8_restore_ok hC ha
  obtain ⟨hn, hf, ⟨c0, -⟩, -⟩ := hC
  refine AC.ofH [some (.ref c), some (.ref o), none] rfl (by decide) (Nat.le_of_ble_eq_true rfl) rfl ?_
  refine AF.aload_n dL_restore_0 rfl ?_
  refine AF.iconst (0) dL_restore_1 (by decide) ?_
  refine AF.aload_n dL_restore_2 rfl ?_
  refine AF.callVH (bc := 0) (bs := 0) (mc' := 1) (ms' := 6) dL_restore_3 kv_L_150 hK c0 rfl rfl rfl (Nat.le_of_ble_eq_true rfl) (by decide) (fun E F' q => ?_) (fun v F' q => ?_)
  · obtain ⟨e1, e2⟩ := rx_x q.1
    have e3 := fun (z : Int64) => WQ.x (z := z) q ho h1 h2 h3
    rcases (by omega : (if X.sv.isSome = true then 0 else 1) = 1) with hp
    · rw [hp] at e2
      subst e2
      refine ⟨_, _, hx_restore_0, fun q9 => ?_⟩
      refine AF.astore_n dL_restore_11 (by decide) ?_
      refine AF.iconst (nI 1) dL_restore_12 (by decide) ?_
      exact AF.ireturn dL_restore_13 rfl (e3 _ _ hp)
  · obtain ⟨e1, bv2, hC2, hx⟩ := q
    obtain ⟨hp, rfl⟩ := rx_n e1
    have ho2 := (hx.2.2 o h1 (Or.inr h2) h3).trans ho
    have h5 : ¬ o = bv2 := by have := hx.2.1; omega
    refine AF.i2l dL_restore_6 ?_
    refine AF.lastoreF 0 dL_restore_7 ho2 h4 rfl (by omega) (by decide) ?_
    intro F2 e9 h9 o9
    refine AF.goto 14 dL_restore_8 (by decide) ?_
    refine AF.iconst (nI 0) dL_restore_14 (by decide) ?_
    exact AF.ireturn dL_restore_15 rfl (WQ.n hC2 hx hp e9 h9 o9 h2 h5)
end

