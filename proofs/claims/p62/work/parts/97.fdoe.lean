/-! The law: a drawn call. -/
theorem rn_le {ns : List Int32} {p : Nat} {v : Int32} (h : ∀ n ∈ ns, n ≤ -7400) (h0 : 0 < p) (h1 : p ≤ ns.length) : rn ns p v ≤ -7400 := by
  unfold rn
  rw [if_neg (by omega), List.getD_eq_getElem?_getD, List.getElem?_eq_getElem (by omega)]
  exact h _ (List.getElem_mem _)
theorem nI_gt {n : Nat} (h : n < 2 ^ 31) : -7000 < nI n := Int32.lt_of_lt_of_le (by decide) (nI_pos' h)
theorem fg8 {σ : Sg} {B : Nat} (h : SQ σ B) (i : Nat) : (fg σ.Fg i).length ≤ 8 := by
  by_cases q : i < σ.Fg.length
  · exact h.2.2.2.2.1 i q
  · have e : fg σ.Fg i = [] := by
      unfold fg
      rw [List.getD_eq_getElem?_getD, List.getElem?_eq_none (by omega)]
      rfl
    rw [e]
    exact Nat.zero_le _
theorem en_le {σ : Sg} {B : Nat} (h : SQ σ B) (e : Nat) : (en σ.E e).2 ≤ B + 30 := by
  by_cases q : e < σ.E.length
  · exact (h.1.2.2.2.1 e q).2
  · have e9 : en σ.E e = (0, 0) := by
      unfold en
      rw [List.getD_eq_getElem?_getD, List.getElem?_eq_none (by omega)]
      rfl
    rw [e9]
    exact Nat.zero_le _
/-- what a drawn call does: it throws and changes nothing, or it is a change -/
def DP (G : GA) (c : Nat) (Y : YS) (B kind beats : Nat) : Value → Nat → AH → Prop := fun v bv' F' => ∃ r : Int32, v = .int r ∧ ((r ≤ -7400 ∧ (kind < 14 ∨ 15 < kind) ∧ LK G c Y (B + 2480) bv' F') ∨ (-7000 < r ∧ ∃ σ, WI σ ∧ (34 < kind → kind < 41 → σ = nxN Y.1 beats ∧ 1 ≤ beats ∧ r = nI (nxF Y.1 beats)) ∧ (13 < kind → kind < 16 → σ = aTrm Y.1 ∧ r = nI (trm Y.1.cap Y.1.w 100 Y.1.J).1) ∧ LK G c (σ, Y.2.1, pushH Y.2.2 Y.1) (B + 2480) bv' F'))
theorem DP.of {G : GA} {c B B' kind beats bv p : Nat} {Y : YS} {F : AH} {ns : List Int32} {v : Int32} {σ : Sg} (hB : B + 2480 ≤ 2 ^ 21) (hb : B' ≤ B + 2480) (hk : kind < 14 ∨ (15 < kind ∧ kind < 35) ∨ 40 < kind) (hn : ∀ n ∈ ns, n ≤ -7400) (hp : p ≤ ns.length) (hv : p = 0 → -7000 < v) (hw : p = 0 → WI σ) (hK : LK G c (chY Y σ p) B' bv F) : DP G c Y B kind beats (.int (rn ns p v)) bv F := by
  refine ⟨_, rfl, ?_⟩
  have hK := hK.mono hb hB
  by_cases q : p = 0
  · subst q
    exact Or.inr ⟨hv rfl, σ, hw rfl, fun a b => by omega, fun a b => by omega, hK⟩
  · have e : chY Y σ p = Y := if_neg q
    rw [e] at hK
    exact Or.inl ⟨rn_le hn (by omega) hp, by omega, hK⟩
/-- more was made, nothing else changed -/
def NW (F1 F : AH) : Prop := F1.1 ≤ F.1 ∧ ∀ q, q < F1.1 → F.2 q = F1.2 q
theorem NW.rf {F : AH} : NW F F := ⟨Nat.le_refl _, fun _ _ => rfl⟩
theorem NW.trans {F1 F2 F3 : AH} (h : NW F1 F2) (k : NW F2 F3) : NW F1 F3 := ⟨Nat.le_trans h.1 k.1, fun q hq => (k.2 q (Nat.lt_of_lt_of_le hq h.1)).trans (h.2 q hq)⟩
theorem NW.gw {F1 F F' : AH} {b bv bv' : Nat} (h : NW F1 F) (g : Gw b bv bv' F F') (hb : F1.1 ≤ b) (hv : F1.1 ≤ bv) : NW F1 F' ∧ F1.1 ≤ bv' := by
  obtain ⟨g1, g2, g3⟩ := g
  refine ⟨⟨Nat.le_trans h.1 g1, fun q hq => (g3 q (by have := h.1; omega) (by omega) (by omega)).trans (h.2 q hq)⟩, ?_⟩
  have := h.1
  omega
theorem LKt.nw {G : GA} {c B bv : Nat} {Y : YS} {tx : List Int32} {F F' : AH} (h : LKt G c Y B tx bv F) (k : NW F F') : LKt G c Y B tx bv F' := h.kept (fun q _ q2 => k.2 q (by have := h.z; omega)) (k.2 bv h.bl) k.1
theorem XF.nw {c bv0 bv : Nat} {F0 F F' : AH} (h : XF c bv0 bv F0 F) (k : NW F F') : XF c bv0 bv F0 F' := ⟨Nat.le_trans h.1 k.1, h.2.1, fun q h1 h2 h3 => (k.2 q (Nat.lt_of_lt_of_le h1 h.1)).trans (h.2.2 q h1 h2 h3)⟩
/-- a builder made since F1, with its text; its cells lie below N -/
def TB (G : GA) (F1 F : AH) (b : Nat) (T : List Int32) (N : Nat) : Prop := ∃ bw cap, BA G F b bw T cap ∧ F1.1 ≤ b ∧ F1.1 ≤ bw ∧ b < N ∧ bw < N ∧ N ≤ F.1 ∧ NW F1 F ∧ gN G ≤ F1.1
theorem TB.nw {G : GA} {F1 F F' : AH} {b N : Nat} {T : List Int32} (h : TB G F1 F b T N) (k : NW F F') : TB G F1 F' b T N := by
  obtain ⟨bw, cap, ⟨ml, f, ⟨h0, h1⟩, h2, h3, h4, h5⟩, q1, q2, q3, q4, q5, q6, q7⟩ := h
  exact ⟨bw, cap, ⟨ml, f, ⟨(k.2 b (by omega)).trans h0, (k.2 bw (by omega)).trans h1⟩, h2, h3, h4, Nat.lt_of_lt_of_le h5 k.1⟩, q1, q2, q3, q4, Nat.le_trans q5 k.1, q6.trans k, q7⟩
theorem TB.c0 {G : GA} {F1 F : AH} {b N : Nat} {T : List Int32} (h : TB G F1 F b T N) : ∃ fs, F.2 b = some (.inr (7, fs)) := by
  obtain ⟨bw, cap, ⟨ml, f, ⟨h0, h1⟩, -⟩, -⟩ := h
  exact ⟨_, h0⟩
section
variable {G : GA} {d bc bs : Nat} {R : AR → AH → Prop} {F1 F : AH} {pc : Nat} {ls : List (Option Value)} {st : List Value} {b N a v : Nat} {T S : List Int32}
theorem AF.tbNew (d0 : decode mL_does.2.1 pc = .ok (.new 265, 3)) (d3 : decode mL_does.2.1 (pc + 3) = .ok (.dup, 1)) (d4 : decode mL_does.2.1 (pc + 4) = .ok (.invokespecial 267, 3)) (hg : gN G ≤ F.1) (hw : (st.map fun v => v.category).sum ≤ 7) (hd : 3 ≤ d) (k : ∀ F' N, TB G F F' F.1 [] N → AF G mL_does d bc bs R F' (pc + 7) ls (.ref F.1 :: st)) : AF G mL_does d (bc + 2) (bs + 20) R F pc ls st := by
  refine AF.new (n := 4) (bc := bc + 1) (bs := bs + 16) d0 kn_L_265 rfl ?_
  intro F2 e9 h9 o9
  refine AF.dup d3 rfl ?_
  refine AF.callI (d' := 2) (mc' := 1) (ms' := 16) (bc := bc) (bs := bs) d4 jv_L_267 (J4_init_ok h9 hg e9) rfl rfl (by simp only [List.map_cons, List.sum_cons]; show 1 + _ ≤ 8; omega) (by omega) rfl (fun E F9 q => nomatch q.1) (fun w F3 q => ?_)
  obtain ⟨q, hBA, m1, m2⟩ := q
  cases q
  exact k F3 F3.1 ⟨_, _, hBA, Nat.le_refl _, by omega, by omega, by omega, Nat.le_refl _, ⟨by omega, fun q hq => (m2 q (by omega)).trans (o9 q (by omega))⟩, hg⟩
theorem AF.tbS (h : TB G F1 F b T N) (d0 : decode mL_does.2.1 pc = .ok (.invokevirtual 270, 3)) (hS : STX G F a v S) (hA : AS S) (hs : (∃ tx, STR G a v tx) ∨ (N ≤ a ∧ N ≤ v ∧ a < F.1 ∧ v < F.1)) (hl : T.length + S.length ≤ 16) (hw : (st.map fun v => v.category).sum ≤ 8) (hd : 6 ≤ d) (k : ∀ F' N', TB G F1 F' b (T ++ S) N' → NW F1 F' → AF G mL_does d bc bs R F' (pc + 3) ls (.ref b :: st)) : AF G mL_does d (bc + 1) (bs + 142) R F pc ls (.ref a :: .ref b :: st) := by
  have h0 := h.c0
  obtain ⟨bw, cap, hBA, q1, q2, q3, q4, q5, q6, q7⟩ := h
  have hsep : SEP a v b bw F := by
    rcases hs with ⟨tx, h1⟩ | ⟨h1, h2, h3, h4⟩
    · exact h1.sep (by omega) (by omega) (by omega)
    · unfold SEP; omega
  refine AF.callV (d' := 5) (bc := bc) (bs := bs) (mc' := 1) (ms' := 142) d0 jv_L_270 (J4_appendS_ok hBA (by omega) (by omega) hS hA hsep hl) h0.choose_spec rfl rfl rfl hw hd rfl (fun E F9 h => nomatch h.1) (fun w F3 h => ?_)
  obtain ⟨h, bw', cap', hB', hg⟩ := h
  cases h
  obtain ⟨hN, hw'⟩ := q6.gw hg q1 q2
  have h3 := hg.1
  have h4 : bw' < F3.1 := by obtain ⟨ml, f, -, -, -, -, h⟩ := hB'; exact h
  exact k F3 F3.1 ⟨bw', cap', hB', q1, hw', by omega, h4, Nat.le_refl _, hN, q7⟩ hN
theorem AF.tbI (h : TB G F1 F b T N) (d0 : decode mL_does.2.1 pc = .ok (.invokevirtual 274, 3)) (z : Nat) (hz : z < 100) (hl : T.length ≤ 140) (hw : (st.map fun v => v.category).sum ≤ 8) (hd : 6 ≤ d) (k : ∀ F' N', TB G F1 F' b (T ++ wrN z) N' → NW F1 F' → AF G mL_does d bc bs R F' (pc + 3) ls (.ref b :: st)) : AF G mL_does d (bc + 1) (bs + 142) R F pc ls (.int (nI z) :: .ref b :: st) := by
  have h0 := h.c0
  obtain ⟨bw, cap, hBA, q1, q2, q3, q4, q5, q6, q7⟩ := h
  refine AF.callV (d' := 5) (bc := bc) (bs := bs) (mc' := 1) (ms' := 142) d0 jv_L_274 (J4_appendI_ok hBA (by omega) (by omega) z hz (by omega)) h0.choose_spec rfl rfl rfl hw hd rfl (fun E F9 h => nomatch h.1) (fun w F3 h => ?_)
  obtain ⟨h, bw', cap', hB', hg⟩ := h
  cases h
  obtain ⟨hN, hw'⟩ := q6.gw hg q1 q2
  have h3 := hg.1
  have h4 : bw' < F3.1 := by obtain ⟨ml, f, -, -, -, -, h⟩ := hB'; exact h
  exact k F3 F3.1 ⟨bw', cap', hB', q1, hw', by omega, h4, Nat.le_refl _, hN, q7⟩ hN
theorem AF.tbE (h : TB G F1 F b T N) (d0 : decode mL_does.2.1 pc = .ok (.invokevirtual 279, 3)) (hl : T.length ≤ 16) (hw : (st.map fun v => v.category).sum ≤ 8) (hd : 6 ≤ d) (k : ∀ F' a v, STX G F' a v T → F.1 ≤ a → F.1 ≤ v → a < F'.1 → v < F'.1 → NW F F' → NW F1 F' → AF G mL_does d bc bs R F' (pc + 3) ls (.ref a :: st)) : AF G mL_does d (bc + 2) (bs + 20) R F pc ls (.ref b :: st) := by
  have h0 := h.c0
  obtain ⟨bw, cap, hBA, q1, q2, q3, q4, q5, q6, q7⟩ := h
  refine AF.less (d' := d) (bc' := bc + 2) (bs' := bs + (T.length + 4)) ?_ (Nat.le_refl _) (Nat.le_refl _) (by omega)
  refine AF.callV (d' := 5) (bc := bc) (bs := bs) (mc' := 2) (ms' := T.length + 4) d0 jv_L_279 (J4_toString_ok hBA (by omega) (by have := q6.1; omega)) h0.choose_spec rfl rfl rfl hw hd rfl (fun E F9 h => nomatch h.1) (fun w F3 h => ?_)
  obtain ⟨h, hz3, hS3, o3⟩ := h
  cases h
  have hN : NW F F3 := ⟨by omega, o3⟩
  exact k F3 F.1 (F.1 + 1) hS3 (Nat.le_refl _) (by omega) (by omega) (by omega) hN (q6.trans hN)
end
section
variable {G : GA} {F0 : AH} {c bv0 B b L : Nat} {Y : YS} {xs : Nat → Int32}
set_option maxRecDepth 100000 in
set_option maxHeartbeats 4000000 in
theorem D_addJet {k kind beats v x j f : Nat} (hK0 : LK G c Y B bv0 F0) (ha : gN G ≤ c) (hB : B + 2480 ≤ 2 ^ 21) (hW : WI Y.1) (hk : kind < 4) (hv : v < 1000) (hx : x < 4000) (hj : j ≤ 10) (hf : f ≤ 5) (hbe : beats < 6) {F : AH} {bv : Nat} (hK : LK G c Y B bv F) (hX : XF c bv0 bv F0 F) : AF G mL_does 14 32 1176 (LE (DP G c Y B kind beats) c bv0 F0) F 268 [some (.ref b), some (.int (nI k)), some (.int (nI kind)), some (.ref c), some (.int (nI beats)), some (.int (nI v)), some (.int (nI x)), some (.int (nI j)), some (.int (nI f))] [] := by
  have hq := hK.q
  have b1 := hq.2.2.1
  have b2 := hq.2.2.2.1
  have b3 := hq.2.2.2.2.2
  have b4 := hq.1.2.1
  have b5 := hq.1.2.2.2.2.1
  have g : ∀ n, n < 2 ^ 31 → AF G mL_does 14 32 1176 (LE (DP G c Y B kind beats) c bv0 F0) F 292 [some (.ref b), some (.int (nI k)), some (.int (nI kind)), some (.ref c), some (.int (nI beats)), some (.int (nI v)), some (.int (nI x)), some (.int (nI j)), some (.int (nI f))] [.int (nI n), .ref c] := by
    intro n hn9
    refine AF.lx (mc' := 1) (ms' := 6) (bc := 31) (bs := 1170) dL_does_292 kx_L_236 (W_addJet hK ha (nI n)) hX rfl rfl (Nat.le_of_ble_eq_true rfl) (by decide) rfl (fun F bv hK hX => ?_)
    exact AF.ireturn dL_does_295 rfl ⟨_, bv, rfl, DP.of (σ := aJet Y.1 (nI n)) hB (Nat.le_add_right _ _) (by omega) (by decide) (by have := pAdd_v (J := Y.1.J) (x := nI n); show _ ≤ 3; omega) (fun z => nI_gt (by omega)) (fun z => hW) hK, hX⟩
  refine AF.aload_n dL_does_268 rfl ?_
  refine AF.iload dL_does_269 rfl ?_
  refine AF.iconst (nI 3) dL_does_271 (by decide) ?_
  refine AF.irem dL_does_272 (by decide) ?_
  rw [pk_rem (by omega) (by omega) (by omega)]
  refine AF.if_ne 287 dL_does_273 (by decide) (fun c1 => ?_) (fun c1 => ?_)
  · refine AF.iload dL_does_287 rfl ?_
    refine AF.bipush (nI 102) dL_does_289 (by decide) ?_
    refine AF.irem dL_does_291 (by decide) ?_
    rw [pk_rem (by omega) (by omega) (by omega)]
    exact g _ (by omega)
  · refine AF.iload dL_does_276 rfl ?_
    refine AF.bipush (nI 10) dL_does_278 (by decide) ?_
    refine AF.irem dL_does_280 (by decide) ?_
    rw [pk_rem (by omega) (by omega) (by omega)]
    refine AF.bipush (nI 11) dL_does_281 (by decide) ?_
    refine AF.imul dL_does_283 ?_
    rw [pk_mul]
    refine AF.goto 292 dL_does_284 (by decide) ?_
    exact g _ (by omega)
set_option maxRecDepth 100000 in
set_option maxHeartbeats 4000000 in
theorem D_removeJet {k kind beats v x j f : Nat} (hK0 : LK G c Y B bv0 F0) (ha : gN G ≤ c) (hB : B + 2480 ≤ 2 ^ 21) (hW : WI Y.1) (hk : kind = 4) (hv : v < 1000) (hx : x < 4000) (hj : j ≤ 10) (hf : f ≤ 5) (hbe : beats < 6) {F : AH} {bv : Nat} (hK : LK G c Y B bv F) (hX : XF c bv0 bv F0 F) : AF G mL_does 14 32 1176 (LE (DP G c Y B kind beats) c bv0 F0) F 296 [some (.ref b), some (.int (nI k)), some (.int (nI kind)), some (.ref c), some (.int (nI beats)), some (.int (nI v)), some (.int (nI x)), some (.int (nI j)), some (.int (nI f))] [] := by
  have hq := hK.q
  have b1 := hq.2.2.1
  have b2 := hq.2.2.2.1
  have b3 := hq.2.2.2.2.2
  have b4 := hq.1.2.1
  have b5 := hq.1.2.2.2.2.1
  refine AF.aload_n dL_does_296 rfl ?_
  refine AF.iload dL_does_297 rfl ?_
  refine AF.lx (mc' := 1) (ms' := 6) (bc := 31) (bs := 1170) dL_does_299 kx_L_238 (W_removeJet hK ha (nI j)) hX rfl rfl (Nat.le_of_ble_eq_true rfl) (by decide) rfl (fun F bv hK hX => ?_)
  have hsum : sumN (rmC (cl (nI j)) Y.1.Fg) Y.1.Fg.length ≤ 8 * Y.1.Fg.length := sumN_le (fun i => by have := fg8 hq i; unfold rmC; omega) _
  exact AF.ireturn dL_does_302 rfl ⟨_, bv, rfl, DP.of (σ := aRmJ Y.1 (nI j)) hB (Nat.le_add_right _ _) (by omega) (by decide) (by show (if _ then 0 else 1) ≤ 1; split <;> omega) (fun z => nI_gt (by omega)) (fun z => hW) hK, hX⟩
set_option maxRecDepth 100000 in
set_option maxHeartbeats 4000000 in
theorem D_setOpening {k kind beats v x j f : Nat} (hK0 : LK G c Y B bv0 F0) (ha : gN G ≤ c) (hB : B + 2480 ≤ 2 ^ 21) (hW : WI Y.1) (hk : 4 < kind ∧ kind < 11) (hv : v < 1000) (hx : x < 4000) (hj : j ≤ 10) (hf : f ≤ 5) (hbe : beats < 6) {F : AH} {bv : Nat} (hK : LK G c Y B bv F) (hX : XF c bv0 bv F0 F) : AF G mL_does 14 32 1176 (LE (DP G c Y B kind beats) c bv0 F0) F 303 [some (.ref b), some (.int (nI k)), some (.int (nI kind)), some (.ref c), some (.int (nI beats)), some (.int (nI v)), some (.int (nI x)), some (.int (nI j)), some (.int (nI f))] [] := by
  have hq := hK.q
  have b1 := hq.2.2.1
  have b2 := hq.2.2.2.1
  have b3 := hq.2.2.2.2.2
  have b4 := hq.1.2.1
  have b5 := hq.1.2.2.2.2.1
  refine AF.aload_n dL_does_303 rfl ?_
  refine AF.iload dL_does_304 rfl ?_
  refine AF.iload dL_does_306 rfl ?_
  refine AF.bipush (nI 12) dL_does_308 (by decide) ?_
  refine AF.irem dL_does_310 (by decide) ?_
  rw [pk_rem (by omega) (by omega) (by omega)]
  refine AF.lx (mc' := 1) (ms' := 6) (bc := 31) (bs := 1170) dL_does_311 kx_L_240 (W_setOpening hK ha (nI j) (nI (x % 12))) hX rfl rfl (Nat.le_of_ble_eq_true rfl) (by decide) rfl (fun F bv hK hX => ?_)
  have ho := (hq.1.1 (cl (nI j))).2
  exact AF.ireturn dL_does_314 rfl ⟨_, bv, rfl, DP.of (σ := aOpn Y.1 (nI j) (nI (x % 12))) hB (Nat.le_add_right _ _) (by omega) (by decide) (by have := pOpn_v (n := Y.1.J.length) (x := nI j) (y := nI (x % 12)); show _ ≤ 2; omega) (fun z => nI_gt (by omega)) (fun z => hW) hK, hX⟩
set_option maxRecDepth 100000 in
set_option maxHeartbeats 4000000 in
theorem D_setCapacity {k kind beats v x j f : Nat} (hK0 : LK G c Y B bv0 F0) (ha : gN G ≤ c) (hB : B + 2480 ≤ 2 ^ 21) (hW : WI Y.1) (hk : kind = 11) (hv : v < 1000) (hx : x < 4000) (hj : j ≤ 10) (hf : f ≤ 5) (hbe : beats < 6) {F : AH} {bv : Nat} (hK : LK G c Y B bv F) (hX : XF c bv0 bv F0 F) : AF G mL_does 14 32 1176 (LE (DP G c Y B kind beats) c bv0 F0) F 315 [some (.ref b), some (.int (nI k)), some (.int (nI kind)), some (.ref c), some (.int (nI beats)), some (.int (nI v)), some (.int (nI x)), some (.int (nI j)), some (.int (nI f))] [] := by
  have hq := hK.q
  have b1 := hq.2.2.1
  have b2 := hq.2.2.2.1
  have b3 := hq.2.2.2.2.2
  have b4 := hq.1.2.1
  have b5 := hq.1.2.2.2.2.1
  have g : ∀ n, AF G mL_does 14 32 1176 (LE (DP G c Y B kind beats) c bv0 F0) F 337 [some (.ref b), some (.int (nI k)), some (.int (nI kind)), some (.ref c), some (.int (nI beats)), some (.int (nI v)), some (.int (nI x)), some (.int (nI j)), some (.int (nI f))] [.int (nI n), .ref c] := by
    intro n
    refine AF.lx (mc' := 1) (ms' := 6) (bc := 31) (bs := 1170) dL_does_337 kx_L_243 (W_setCapacity hK ha (nI n)) hX rfl rfl (Nat.le_of_ble_eq_true rfl) (by decide) rfl (fun F bv hK hX => ?_)
    exact AF.ireturn dL_does_340 rfl ⟨_, bv, rfl, DP.of (σ := aCap Y.1 (nI n)) hB (Nat.le_add_right _ _) (by omega) (by decide) (by have := pCap_v (x := nI n); show _ ≤ 1; omega) (fun z => nI_gt (by omega)) (fun z => hW) hK, hX⟩
  refine AF.aload_n dL_does_315 rfl ?_
  refine AF.iload dL_does_316 rfl ?_
  refine AF.bipush (nI 9) dL_does_318 (by decide) ?_
  refine AF.irem dL_does_320 (by decide) ?_
  rw [pk_rem (by omega) (by omega) (by omega)]
  refine AF.if_ne 332 dL_does_321 (by decide) (fun c1 => ?_) (fun c1 => ?_)
  · refine AF.iload dL_does_332 rfl ?_
    refine AF.bipush (nI 40) dL_does_334 (by decide) ?_
    refine AF.irem dL_does_336 (by decide) ?_
    rw [pk_rem (by omega) (by omega) (by omega)]
    exact g _
  · refine AF.iload dL_does_324 rfl ?_
    refine AF.bipush (nI 103) dL_does_326 (by decide) ?_
    refine AF.irem dL_does_328 (by decide) ?_
    rw [pk_rem (by omega) (by omega) (by omega)]
    refine AF.goto 337 dL_does_329 (by decide) ?_
    exact g _
set_option maxRecDepth 100000 in
set_option maxHeartbeats 4000000 in
theorem D_setWind {k kind beats v x j f : Nat} (hK0 : LK G c Y B bv0 F0) (ha : gN G ≤ c) (hB : B + 2480 ≤ 2 ^ 21) (hW : WI Y.1) (hk : 11 < kind ∧ kind < 14) (hv : v < 1000) (hx : x < 4000) (hj : j ≤ 10) (hf : f ≤ 5) (hbe : beats < 6) {F : AH} {bv : Nat} (hK : LK G c Y B bv F) (hX : XF c bv0 bv F0 F) : AF G mL_does 14 32 1176 (LE (DP G c Y B kind beats) c bv0 F0) F 341 [some (.ref b), some (.int (nI k)), some (.int (nI kind)), some (.ref c), some (.int (nI beats)), some (.int (nI v)), some (.int (nI x)), some (.int (nI j)), some (.int (nI f))] [] := by
  have hq := hK.q
  have b1 := hq.2.2.1
  have b2 := hq.2.2.2.1
  have b3 := hq.2.2.2.2.2
  have b4 := hq.1.2.1
  have b5 := hq.1.2.2.2.2.1
  refine AF.aload_n dL_does_341 rfl ?_
  refine AF.iload dL_does_342 rfl ?_
  refine AF.bipush (nI 21) dL_does_344 (by decide) ?_
  refine AF.irem dL_does_346 (by decide) ?_
  rw [pk_rem (by omega) (by omega) (by omega)]
  refine AF.bipush (nI 10) dL_does_347 (by decide) ?_
  refine AF.isub dL_does_349 ?_
  refine AF.lx (mc' := 1) (ms' := 6) (bc := 31) (bs := 1170) dL_does_350 kx_L_245 (W_setWind hK ha (nI (v % 21) - nI 10)) hX rfl rfl (Nat.le_of_ble_eq_true rfl) (by decide) rfl (fun F bv hK hX => ?_)
  exact AF.ireturn dL_does_353 rfl ⟨_, bv, rfl, DP.of (σ := aWnd Y.1 (nI (v % 21) - nI 10)) hB (Nat.le_add_right _ _) (by omega) (by decide) (by have := pWnd_v (x := nI (v % 21) - nI 10); show _ ≤ 1; omega) (fun z => Int32.lt_iff_toInt_lt.mpr (by rw [show (-7000 : Int32).toInt = -7000 from by decide]; have := hW.1; omega)) (fun z => pWnd_I (show pWnd (nI (v % 21) - nI 10) = 0 by have := pWnd_v (x := nI (v % 21) - nI 10); omega)) hK, hX⟩
set_option maxRecDepth 100000 in
set_option maxHeartbeats 4000000 in
theorem D_trim {k kind beats v x j f : Nat} (hK0 : LK G c Y B bv0 F0) (ha : gN G ≤ c) (hB : B + 2480 ≤ 2 ^ 21) (hW : WI Y.1) (hk : 13 < kind ∧ kind < 16) (hv : v < 1000) (hx : x < 4000) (hj : j ≤ 10) (hf : f ≤ 5) (hbe : beats < 6) {F : AH} {bv : Nat} (hK : LK G c Y B bv F) (hX : XF c bv0 bv F0 F) : AF G mL_does 14 32 1176 (LE (DP G c Y B kind beats) c bv0 F0) F 354 [some (.ref b), some (.int (nI k)), some (.int (nI kind)), some (.ref c), some (.int (nI beats)), some (.int (nI v)), some (.int (nI x)), some (.int (nI j)), some (.int (nI f))] [] := by
  have hq := hK.q
  have b1 := hq.2.2.1
  have b2 := hq.2.2.2.1
  have b3 := hq.2.2.2.2.2
  have b4 := hq.1.2.1
  have b5 := hq.1.2.2.2.2.1
  refine AF.aload_n dL_does_354 rfl ?_
  refine AF.lv (mc' := 0) (ms' := 0) (bc := 32) (bs := 1176) dL_does_355 kv_L_247 (Y_trim hK ha) hK.c0.choose_spec rfl hX rfl rfl (Nat.le_of_ble_eq_true rfl) (by decide) rfl (fun F bv hK hX => ?_)
  have ht := trm_le (cap := Y.1.cap) (w := Y.1.w) 100 Y.1.J
  exact AF.ireturn dL_does_358 rfl ⟨_, bv, rfl, ⟨_, rfl, Or.inr ⟨nI_gt (by omega), aTrm Y.1, hW, fun a9 b9 => by omega, fun _ _ => ⟨rfl, rfl⟩, LKt.mono (B := B) hK (Nat.le_add_right _ _) hB⟩⟩, hX⟩
set_option maxRecDepth 100000 in
set_option maxHeartbeats 4000000 in
theorem D_addFigure {k kind beats v x j f : Nat} (hK0 : LK G c Y B bv0 F0) (ha : gN G ≤ c) (hB : B + 2480 ≤ 2 ^ 21) (hW : WI Y.1) (hk : 15 < kind ∧ kind < 18) (hv : v < 1000) (hx : x < 4000) (hj : j ≤ 10) (hf : f ≤ 5) (hbe : beats < 6) {F : AH} {bv : Nat} (hK : LK G c Y B bv F) (hX : XF c bv0 bv F0 F) : AF G mL_does 14 32 1176 (LE (DP G c Y B kind beats) c bv0 F0) F 359 [some (.ref b), some (.int (nI k)), some (.int (nI kind)), some (.ref c), some (.int (nI beats)), some (.int (nI v)), some (.int (nI x)), some (.int (nI j)), some (.int (nI f))] [] := by
  have hq := hK.q
  have b1 := hq.2.2.1
  have b2 := hq.2.2.2.1
  have b3 := hq.2.2.2.2.2
  have b4 := hq.1.2.1
  have b5 := hq.1.2.2.2.2.1
  refine AF.aload_n dL_does_359 rfl ?_
  refine AF.lx (mc' := 1) (ms' := 6) (bc := 31) (bs := 1170) dL_does_360 kx_L_250 (W_addFigure hK ha) hX rfl rfl (Nat.le_of_ble_eq_true rfl) (by decide) rfl (fun F bv hK hX => ?_)
  exact AF.ireturn dL_does_363 rfl ⟨_, bv, rfl, DP.of (σ := aFig Y.1) hB (Nat.le_add_right _ _) (by omega) (by decide) (by show (if _ then 0 else 1) ≤ 1; split <;> omega) (fun z => nI_gt (by omega)) (fun z => hW) hK, hX⟩
set_option maxRecDepth 100000 in
set_option maxHeartbeats 4000000 in
theorem D_removeFigure {k kind beats v x j f : Nat} (hK0 : LK G c Y B bv0 F0) (ha : gN G ≤ c) (hB : B + 2480 ≤ 2 ^ 21) (hW : WI Y.1) (hk : kind = 18) (hv : v < 1000) (hx : x < 4000) (hj : j ≤ 10) (hf : f ≤ 5) (hbe : beats < 6) {F : AH} {bv : Nat} (hK : LK G c Y B bv F) (hX : XF c bv0 bv F0 F) : AF G mL_does 14 32 1176 (LE (DP G c Y B kind beats) c bv0 F0) F 364 [some (.ref b), some (.int (nI k)), some (.int (nI kind)), some (.ref c), some (.int (nI beats)), some (.int (nI v)), some (.int (nI x)), some (.int (nI j)), some (.int (nI f))] [] := by
  have hq := hK.q
  have b1 := hq.2.2.1
  have b2 := hq.2.2.2.1
  have b3 := hq.2.2.2.2.2
  have b4 := hq.1.2.1
  have b5 := hq.1.2.2.2.2.1
  refine AF.aload_n dL_does_364 rfl ?_
  refine AF.iload dL_does_365 rfl ?_
  refine AF.lx (mc' := 1) (ms' := 6) (bc := 31) (bs := 1170) dL_does_367 kx_L_252 (W_removeFigure hK ha (nI f)) hX rfl rfl (Nat.le_of_ble_eq_true rfl) (by decide) rfl (fun F bv hK hX => ?_)
  have h8 := fg8 hq (cl (nI f))
  exact AF.ireturn dL_does_370 rfl ⟨_, bv, rfl, DP.of (σ := aRmF Y.1 (nI f)) hB (Nat.le_add_right _ _) (by omega) (by decide) (by have := pDrF_v (σ := Y.1) (x := nI f); show (if _ then 2 else _) ≤ 2; split <;> omega) (fun z => nI_gt (by omega)) (fun z => hW) hK, hX⟩
set_option maxRecDepth 100000 in
set_option maxHeartbeats 4000000 in
theorem D_removeStep {k kind beats v x j f : Nat} (hK0 : LK G c Y B bv0 F0) (ha : gN G ≤ c) (hB : B + 2480 ≤ 2 ^ 21) (hW : WI Y.1) (hk : kind = 19) (hv : v < 1000) (hx : x < 4000) (hj : j ≤ 10) (hf : f ≤ 5) (hbe : beats < 6) {F : AH} {bv : Nat} (hK : LK G c Y B bv F) (hX : XF c bv0 bv F0 F) : AF G mL_does 14 32 1176 (LE (DP G c Y B kind beats) c bv0 F0) F 371 [some (.ref b), some (.int (nI k)), some (.int (nI kind)), some (.ref c), some (.int (nI beats)), some (.int (nI v)), some (.int (nI x)), some (.int (nI j)), some (.int (nI f))] [] := by
  have hq := hK.q
  have b1 := hq.2.2.1
  have b2 := hq.2.2.2.1
  have b3 := hq.2.2.2.2.2
  have b4 := hq.1.2.1
  have b5 := hq.1.2.2.2.2.1
  refine AF.aload_n dL_does_371 rfl ?_
  refine AF.iload dL_does_372 rfl ?_
  refine AF.iload dL_does_374 rfl ?_
  refine AF.iconst (nI 4) dL_does_376 (by decide) ?_
  refine AF.irem dL_does_377 (by decide) ?_
  rw [pk_rem (by omega) (by omega) (by omega)]
  refine AF.lx (mc' := 1) (ms' := 6) (bc := 31) (bs := 1170) dL_does_378 kx_L_254 (W_removeStep hK ha (nI f) (nI (v % 4))) hX rfl rfl (Nat.le_of_ble_eq_true rfl) (by decide) rfl (fun F bv hK hX => ?_)
  have h8 := fg8 hq (cl (nI f))
  exact AF.ireturn dL_does_381 rfl ⟨_, bv, rfl, DP.of (σ := aRmS Y.1 (nI f) (nI (v % 4))) hB (Nat.le_add_right _ _) (by omega) (by decide) (by show (if _ then 0 else 1) ≤ 1; split <;> omega) (fun z => nI_gt (by omega)) (fun z => hW) hK, hX⟩
set_option maxRecDepth 100000 in
set_option maxHeartbeats 4000000 in
theorem D_addStep {k kind beats v x j f : Nat} (hK0 : LK G c Y B bv0 F0) (ha : gN G ≤ c) (hB : B + 2480 ≤ 2 ^ 21) (hW : WI Y.1) (hk : 19 < kind ∧ kind < 29) (hv : v < 1000) (hx : x < 4000) (hj : j ≤ 10) (hf : f ≤ 5) (hbe : beats < 6) {F : AH} {bv : Nat} (hK : LK G c Y B bv F) (hX : XF c bv0 bv F0 F) : AF G mL_does 14 32 1176 (LE (DP G c Y B kind beats) c bv0 F0) F 382 [some (.ref b), some (.int (nI k)), some (.int (nI kind)), some (.ref c), some (.int (nI beats)), some (.int (nI v)), some (.int (nI x)), some (.int (nI j)), some (.int (nI f))] [] := by
  have hq := hK.q
  have b1 := hq.2.2.1
  have b2 := hq.2.2.2.1
  have b3 := hq.2.2.2.2.2
  have b4 := hq.1.2.1
  have b5 := hq.1.2.2.2.2.1
  have g : ∀ n, 0 < n → n < 100 → AF G mL_does 14 32 1176 (LE (DP G c Y B kind beats) c bv0 F0) F 400 [some (.ref b), some (.int (nI k)), some (.int (nI kind)), some (.ref c), some (.int (nI beats)), some (.int (nI v)), some (.int (nI x)), some (.int (nI j)), some (.int (nI f))] [.int (nI n), .int (nI v), .int (nI f), .ref c] := by
    intro n h0 hn
    refine AF.irem dL_does_400 (nI_ne0 h0 (by omega)) ?_
    rw [pk_rem (by omega) (by omega) (by omega)]
    refine AF.iload dL_does_401 rfl ?_
    refine AF.iload dL_does_403 rfl ?_
    refine AF.iconst (nI 5) dL_does_405 (by decide) ?_
    refine AF.idiv dL_does_406 (by decide) ?_
    rw [pk_div (by omega) (by omega) (by omega)]
    refine AF.bipush (nI 12) dL_does_407 (by decide) ?_
    refine AF.irem dL_does_409 (by decide) ?_
    rw [pk_rem (by omega) (by omega) (by omega)]
    refine AF.lx (mc' := 1) (ms' := 6) (bc := 31) (bs := 1170) dL_does_410 kx_L_256 (W_addStep hK ha (nI f) (nI (v % n)) (nI j) (nI (x / 5 % 12))) hX rfl rfl (Nat.le_of_ble_eq_true rfl) (by decide) rfl (fun F bv hK hX => ?_)
    have h8 := fg8 hq (cl (nI f))
    exact AF.ireturn dL_does_413 rfl ⟨_, bv, rfl, DP.of (σ := aStp Y.1 (nI f) (nI (v % n)) (nI j) (nI (x / 5 % 12))) hB (Nat.le_add_right _ _) (by omega) (by decide) (by have := pStp_v (σ := Y.1) (x := nI f) (y := nI (v % n)) (z := nI j) (u := nI (x / 5 % 12)); show (if _ then 3 else _) ≤ 3; split <;> omega) (fun z => nI_gt (by omega)) (fun z => hW) hK, hX⟩
  refine AF.aload_n dL_does_382 rfl ?_
  refine AF.iload dL_does_383 rfl ?_
  refine AF.iload dL_does_385 rfl ?_
  refine AF.iload dL_does_387 rfl ?_
  refine AF.iconst (nI 5) dL_does_389 (by decide) ?_
  refine AF.irem dL_does_390 (by decide) ?_
  rw [pk_rem (by omega) (by omega) (by omega)]
  refine AF.if_ne 399 dL_does_391 (by decide) (fun c1 => ?_) (fun c1 => ?_)
  · refine AF.iconst (nI 5) dL_does_399 (by decide) ?_
    exact g 5 (by decide) (by decide)
  · refine AF.bipush (nI 22) dL_does_394 (by decide) ?_
    refine AF.goto 400 dL_does_396 (by decide) ?_
    exact g 22 (by decide) (by decide)
set_option maxRecDepth 100000 in
set_option maxHeartbeats 4000000 in
theorem D_play {k kind beats v x j f : Nat} (hK0 : LK G c Y B bv0 F0) (ha : gN G ≤ c) (hB : B + 2480 ≤ 2 ^ 21) (hW : WI Y.1) (hk : 28 < kind ∧ kind < 34) (hv : v < 1000) (hx : x < 4000) (hj : j ≤ 10) (hf : f ≤ 5) (hbe : beats < 6) {F : AH} {bv : Nat} (hK : LK G c Y B bv F) (hX : XF c bv0 bv F0 F) : AF G mL_does 14 32 1176 (LE (DP G c Y B kind beats) c bv0 F0) F 414 [some (.ref b), some (.int (nI k)), some (.int (nI kind)), some (.ref c), some (.int (nI beats)), some (.int (nI v)), some (.int (nI x)), some (.int (nI j)), some (.int (nI f))] [] := by
  have hq := hK.q
  have b1 := hq.2.2.1
  have b2 := hq.2.2.2.1
  have b3 := hq.2.2.2.2.2
  have b4 := hq.1.2.1
  have b5 := hq.1.2.2.2.2.1
  refine AF.aload_n dL_does_414 rfl ?_
  refine AF.iload dL_does_415 rfl ?_
  refine AF.iload dL_does_417 rfl ?_
  refine AF.bipush (nI 7) dL_does_419 (by decide) ?_
  refine AF.irem dL_does_421 (by decide) ?_
  rw [pk_rem (by omega) (by omega) (by omega)]
  refine AF.lx (mc' := 1) (ms' := 6) (bc := 31) (bs := 1170) dL_does_422 kx_L_259 (W_play hK ha (nI f) (nI (v % 7))) hX rfl rfl (Nat.le_of_ble_eq_true rfl) (by decide) rfl (fun F bv hK hX => ?_)
  have hc9 := cl_nI (n := v % 7) (by omega)
  exact AF.ireturn dL_does_425 rfl ⟨_, bv, rfl, DP.of (σ := aPly Y.1 (nI f) (nI (v % 7))) hB (Nat.le_add_right _ _) (by omega) (by decide) (by have := pPly_v (σ := Y.1) (x := nI f) (y := nI (v % 7)); show (if _ then 3 else _) ≤ 3; split <;> omega) (fun z => nI_gt (by omega)) (fun z => hW) hK, hX⟩
set_option maxRecDepth 100000 in
set_option maxHeartbeats 4000000 in
theorem D_cancel {k kind beats v x j f : Nat} (hK0 : LK G c Y B bv0 F0) (ha : gN G ≤ c) (hB : B + 2480 ≤ 2 ^ 21) (hW : WI Y.1) (hk : kind = 34) (hv : v < 1000) (hx : x < 4000) (hj : j ≤ 10) (hf : f ≤ 5) (hbe : beats < 6) {F : AH} {bv : Nat} (hK : LK G c Y B bv F) (hX : XF c bv0 bv F0 F) : AF G mL_does 14 32 1176 (LE (DP G c Y B kind beats) c bv0 F0) F 426 [some (.ref b), some (.int (nI k)), some (.int (nI kind)), some (.ref c), some (.int (nI beats)), some (.int (nI v)), some (.int (nI x)), some (.int (nI j)), some (.int (nI f))] [] := by
  have hq := hK.q
  have b1 := hq.2.2.1
  have b2 := hq.2.2.2.1
  have b3 := hq.2.2.2.2.2
  have b4 := hq.1.2.1
  have b5 := hq.1.2.2.2.2.1
  refine AF.aload_n dL_does_426 rfl ?_
  refine AF.iload dL_does_427 rfl ?_
  refine AF.aload_n dL_does_429 rfl ?_
  refine AF.lv (mc' := 0) (ms' := 0) (bc := 32) (bs := 1176) dL_does_430 kv_L_203 (Y_queueLength hK) hK.c0.choose_spec rfl hX rfl rfl (Nat.le_of_ble_eq_true rfl) (by decide) rfl (fun F bv hK hX => ?_)
  refine AF.iconst (nI 1) dL_does_433 (by decide) ?_
  refine AF.iadd dL_does_434 ?_
  rw [nI_add]
  refine AF.irem dL_does_435 (nI_ne0 (by omega) (by omega)) ?_
  rw [pk_rem (by omega) (by omega) (by omega)]
  refine AF.lx (mc' := 1) (ms' := 6) (bc := 31) (bs := 1170) dL_does_436 kx_L_261 (W_cancel hK ha (nI (x % (Y.1.E.length + 1)))) hX rfl rfl (Nat.le_of_ble_eq_true rfl) (by decide) rfl (fun F bv hK hX => ?_)
  have h8 := en_le hq (cl (nI (x % (Y.1.E.length + 1))))
  have h9 := hq.1.2.2.2.2.2.2.2
  exact AF.ireturn dL_does_439 rfl ⟨_, bv, rfl, DP.of (σ := aCan Y.1 (nI (x % (Y.1.E.length + 1)))) hB (Nat.le_add_right _ _) (by omega) (by decide) (by show (if _ then 0 else 1) ≤ 1; split <;> omega) (fun z => nI_gt (by omega)) (fun z => hW) hK, hX⟩
set_option maxRecDepth 100000 in
set_option maxHeartbeats 4000000 in
theorem D_pass {k kind beats v x j f : Nat} (hK0 : LK G c Y B bv0 F0) (ha : gN G ≤ c) (hB : B + 2480 ≤ 2 ^ 21) (hW : WI Y.1) (hk : 34 < kind ∧ kind < 41) (hv : v < 1000) (hx : x < 4000) (hj : j ≤ 10) (hf : f ≤ 5) (hbe : beats < 6) {F : AH} {bv : Nat} (hK : LK G c Y B bv F) (hX : XF c bv0 bv F0 F) : AF G mL_does 14 32 1176 (LE (DP G c Y B kind beats) c bv0 F0) F 440 [some (.ref b), some (.int (nI k)), some (.int (nI kind)), some (.ref c), some (.int (nI beats)), some (.int (nI v)), some (.int (nI x)), some (.int (nI j)), some (.int (nI f))] [] := by
  have hq := hK.q
  have b1 := hq.2.2.1
  have b2 := hq.2.2.2.1
  have b3 := hq.2.2.2.2.2
  have b4 := hq.1.2.1
  have b5 := hq.1.2.2.2.2.1
  refine AF.aload_n dL_does_440 rfl ?_
  refine AF.iload dL_does_441 rfl ?_
  refine AF.lx (mc' := 1) (ms' := 6) (bc := 31) (bs := 1170) dL_does_443 kx_L_263 (W_pass hK ha (by omega) (nI beats)) hX rfl rfl (Nat.le_of_ble_eq_true rfl) (by decide) rfl (fun F bv hK hX => ?_)
  have hc9 := cl_nI (n := beats) (by omega)
  have hF := nxF_le (σ := Y.1) beats
  have hF2 : Y.1.E.length * beats ≤ 6 * 6 := Nat.mul_le_mul (by omega) (by omega)
  have hp := pPas_v (x := nI beats)
  rw [hc9] at hK ⊢
  refine AF.ireturn dL_does_446 rfl ⟨_, bv, rfl, ⟨_, rfl, ?_⟩, hX⟩
  by_cases q : pPas (nI beats) / 2 = 0
  · have h1 := (pPas_0 (x := nI beats) (by omega)).1
    rw [hc9] at h1
    rw [q] at hK ⊢
    exact Or.inr ⟨nI_gt (n := nxF Y.1 beats) (by omega), nxN Y.1 beats, by unfold WI; rw [nxN_w]; exact hW, fun _ _ => ⟨rfl, h1, rfl⟩, fun a9 b9 => by omega, LKt.mono (B := B + 40) hK (by omega) hB⟩
  · have e : chY Y (nxN Y.1 beats) (pPas (nI beats) / 2) = Y := if_neg q
    rw [e] at hK
    exact Or.inl ⟨rn_le (by decide) (by omega) (by show _ ≤ 1; omega), by omega, LKt.mono (B := B + 40) hK (by omega) hB⟩
set_option maxRecDepth 100000 in
set_option maxHeartbeats 4000000 in
theorem D_text {k kind beats v x j f : Nat} (hK0 : LK G c Y B bv0 F0) (ha : gN G ≤ c) (hB : B + 2480 ≤ 2 ^ 21) (hW : WI Y.1) (hk : 40 < kind) (hv : v < 1000) (hx : x < 4000) (hj : j ≤ 10) (hf : f ≤ 5) (hbe : beats < 6) {F1 : AH} {bv : Nat} (hK1 : LK G c Y B bv F1) (hX1 : XF c bv0 bv F0 F1) : AF G mL_does 14 32 1176 (LE (DP G c Y B kind beats) c bv0 F0) F1 447 [some (.ref b), some (.int (nI k)), some (.int (nI kind)), some (.ref c), some (.int (nI beats)), some (.int (nI v)), some (.int (nI x)), some (.int (nI j)), some (.int (nI f))] [] := by
  have hz := hK1.z
  have hbl := hK1.bl
  have hbq := hK1.b
  have hG0 : gN G ≤ F1.1 := by omega
  have a1 : AS (str "pump ") := AS_str (by decide)
  have a2 : AS (str ";pass ") := AS_str (by decide)
  have a3 : AS (str ";trim") := AS_str (by decide)
  have a4 : AS (str ";play ") := AS_str (by decide)
  have a5 : AS (str "+") := AS_str (by decide)
  have a6 : AS (str ";") := AS_str (by decide)
  have l1 : (str "pump ").length = 5 := by decide
  have l2 : (str ";pass ").length = 6 := by decide
  have l3 : (str ";trim").length = 5 := by decide
  have l4 : (str ";play ").length = 6 := by decide
  have l5 : (str "+").length = 1 := by decide
  have l6 : (str ";").length = 1 := by decide
  have wl : ∀ n, (wrN n).length ≤ 2 := fun n => wrN_le
  have w1 : ∀ n, n < 10 → (wrN n).length = 1 := fun n hn => by unfold wrN; rw [if_neg (by omega)]; rfl
  -- at 562: the second part of the text is there
  have g : ∀ F a v9 S T N, TB G F1 F F1.1 T N → STX G F a v9 S → AS S → ((∃ tx, STR G a v9 tx) ∨ (N ≤ a ∧ N ≤ v9 ∧ a < F.1 ∧ v9 < F.1)) → AS T → T.length + S.length ≤ 16 → AF G mL_does 14 20 264 (LE (DP G c Y B kind beats) c bv0 F0) F 562 [some (.ref b), some (.int (nI k)), some (.int (nI kind)), some (.ref c), some (.int (nI beats)), some (.int (nI v)), some (.int (nI x)), some (.int (nI j)), some (.int (nI f))] [.ref a, .ref F1.1, .ref c] := by
    intro F a v9 S T N hTB hS hA hs hT hl
    refine AF.tbS (bc := 19) (bs := 122) hTB dL_does_562 hS hA hs hl (Nat.le_of_ble_eq_true rfl) (by decide) (fun F2 N2 hTB2 hN2 => ?_)
    have hlt : (T ++ S).length = T.length + S.length := List.length_append
    refine AF.tbE (bc := 17) (bs := 102) hTB2 dL_does_565 (by omega) (Nat.le_of_ble_eq_true rfl) (by decide) (fun F3 a3 v3 hS3 p1 p2 p3 p4 p5 hN3 => ?_)
    have hK := hK1.nw hN3
    have hX := hX1.nw hN3
    have hle := hN2.1
    refine AF.le (mc' := 17) (ms' := 102) (bc := 0) (bs := 0) dL_does_568 kv_L_291 (L_runs_ok hK ha hB hS3 (hT.app hA) (by omega) ⟨by omega, p3, by omega⟩ ⟨by omega, p4, by omega⟩) hX rfl rfl (Nat.le_of_ble_eq_true rfl) (by decide) rfl (fun F bv w hP hX => ?_)
    obtain ⟨r, rfl, hP⟩ := hP
    refine AF.ireturn dL_does_571 rfl ⟨_, bv, rfl, ⟨r, rfl, ?_⟩, hX⟩
    rcases hP with ⟨z1, z2⟩ | ⟨⟨n, z1, z2⟩, σ, z3, z4⟩
    · exact Or.inl ⟨z1, by omega, z2⟩
    · exact Or.inr ⟨by rw [z2]; exact nI_gt (by omega), σ, z3 hW, fun u w => by omega, fun u w => by omega, z4⟩
  refine AF.aload_n dL_does_447 rfl ?_
  refine AF.tbNew (bc := 30) (bs := 1156) dL_does_448 dL_does_451 dL_does_452 hG0 (Nat.le_of_ble_eq_true rfl) (by decide) (fun F2 N2 hTB => ?_)
  refine AF.ldcWS dL_does_455 st_L_268 (fun as vs hs9 => ?_)
  refine AF.tbS (bc := 29) (bs := 1014) hTB dL_does_458 (Or.inl ⟨_, hs9, rfl⟩) a1 (Or.inl ⟨_, hs9⟩) (by rw [l1]; decide) (Nat.le_of_ble_eq_true rfl) (by decide) (fun F3 N3 hTB _ => ?_)
  refine AF.iload dL_does_461 rfl ?_
  refine AF.bipush (nI 60) dL_does_463 (by decide) ?_
  refine AF.irem dL_does_465 (by decide) ?_
  rw [pk_rem (by omega) (by omega) (by omega)]
  refine AF.tbI (bc := 28) (bs := 872) hTB dL_does_466 (x % 60) (by omega) (by rw [List.length_append, l1]; decide) (Nat.le_of_ble_eq_true rfl) (by decide) (fun F4 N4 hTB hN4 => ?_)
  have hT : AS (([] ++ str "pump ") ++ wrN (x % 60)) := (AS.nil.app a1).app (AS.num (by omega))
  have hTl : (([] ++ str "pump ") ++ wrN (x % 60)).length ≤ 7 := by have := wl (x % 60); rw [List.length_append, List.length_append, l1]; show 0 + 5 + _ ≤ 7; omega
  generalize ([] ++ str "pump ") ++ wrN (x % 60) = T at hTB hT hTl
  have hG4 : gN G ≤ F4.1 := Nat.le_trans hG0 hN4.1
  have hNF : N4 ≤ F4.1 := by obtain ⟨_, _, -, -, -, -, -, h, -⟩ := hTB; exact h
  -- a constant, at 562
  have gc : ∀ (tx : String) a v9, STR G a v9 tx → AS (str tx) → (str tx).length ≤ 9 → AF G mL_does 14 28 872 (LE (DP G c Y B kind beats) c bv0 F0) F4 562 [some (.ref b), some (.int (nI k)), some (.int (nI kind)), some (.ref c), some (.int (nI beats)), some (.int (nI v)), some (.int (nI x)), some (.int (nI j)), some (.int (nI f))] [.ref a, .ref F1.1, .ref c] := fun tx a v9 h1 h2 h3 => AF.less (d' := 14) (g F4 a v9 (str tx) T N4 hTB (Or.inl ⟨tx, h1, rfl⟩) h2 (Or.inl ⟨tx, h1⟩) hT (by omega)) (Nat.le_refl _) (by decide) (by decide)
  -- a text that was made, at 562
  have gm : ∀ F a v9 S bc bs, 20 ≤ bc → 264 ≤ bs → NW F4 F → STX G F a v9 S → AS S → S.length ≤ 9 → F4.1 ≤ a → F4.1 ≤ v9 → a < F.1 → v9 < F.1 → AF G mL_does 14 bc bs (LE (DP G c Y B kind beats) c bv0 F0) F 562 [some (.ref b), some (.int (nI k)), some (.int (nI kind)), some (.ref c), some (.int (nI beats)), some (.int (nI v)), some (.int (nI x)), some (.int (nI j)), some (.int (nI f))] [.ref a, .ref F1.1, .ref c] := fun F a v9 S bc bs q1 q2 h1 h2 h3 h4 h5 h6 h7 h8 => AF.less (d' := 14) (g F a v9 S T N4 (hTB.nw h1) h2 h3 (Or.inr ⟨by omega, by omega, h7, h8⟩) hT (by omega)) (Nat.le_refl _) q1 q2
  refine AF.iload dL_does_469 rfl ?_
  refine AF.iconst (nI 4) dL_does_471 (by decide) ?_
  refine AF.irem dL_does_472 (by decide) ?_
  rw [pk_rem (by omega) (by omega) (by omega)]
  refine AF.if_ne 500 dL_does_473 (by decide) (fun c1 => ?_) (fun c1 => ?_)
  · refine AF.iload dL_does_500 rfl ?_
    refine AF.iconst (nI 4) dL_does_502 (by decide) ?_
    refine AF.irem dL_does_503 (by decide) ?_
    rw [pk_rem (by omega) (by omega) (by omega)]
    refine AF.iconst (nI 1) dL_does_504 (by decide) ?_
    refine AF.icmp_ne 514 dL_does_505 (by decide) (fun c2 => ?_) (fun c2 => ?_)
    · refine AF.iload dL_does_514 rfl ?_
      refine AF.iconst (nI 4) dL_does_516 (by decide) ?_
      refine AF.irem dL_does_517 (by decide) ?_
      rw [pk_rem (by omega) (by omega) (by omega)]
      refine AF.iconst (nI 2) dL_does_518 (by decide) ?_
      refine AF.icmp_ne 559 dL_does_519 (by decide) (fun c3 => ?_) (fun c3 => ?_)
      · refine AF.ldcWS dL_does_559 st_L_289 (fun as vs hs9 => ?_)
        exact gc _ _ _ hs9 a6 (by omega)
      · refine AF.tbNew (bc := 26) (bs := 852) dL_does_522 dL_does_525 dL_does_526 hG4 (Nat.le_of_ble_eq_true rfl) (by decide) (fun F5 N5 hB5 => ?_)
        refine AF.ldcWS dL_does_529 st_L_285 (fun as vs hs9 => ?_)
        refine AF.tbS (bc := 25) (bs := 710) hB5 dL_does_532 (Or.inl ⟨_, hs9, rfl⟩) a4 (Or.inl ⟨_, hs9⟩) (by rw [l4]; decide) (Nat.le_of_ble_eq_true rfl) (by decide) (fun F6 N6 hB6 _ => ?_)
        refine AF.iload dL_does_535 rfl ?_
        refine AF.tbI (bc := 24) (bs := 568) hB6 dL_does_537 f (by omega) (by rw [List.length_append, l4]; decide) (Nat.le_of_ble_eq_true rfl) (by decide) (fun F7 N7 hB7 _ => ?_)
        have hl7 : (([] ++ str ";play ") ++ wrN f).length = 7 := by rw [List.length_append, List.length_append, l4, w1 f (by omega)]; rfl
        refine AF.ldcWS dL_does_540 st_L_287 (fun as vs ht9 => ?_)
        refine AF.tbS (bc := 23) (bs := 426) hB7 dL_does_543 (Or.inl ⟨_, ht9, rfl⟩) a5 (Or.inl ⟨_, ht9⟩) (by rw [hl7, l5]; decide) (Nat.le_of_ble_eq_true rfl) (by decide) (fun F8 N8 hB8 _ => ?_)
        refine AF.iload dL_does_546 rfl ?_
        refine AF.iconst (nI 5) dL_does_548 (by decide) ?_
        refine AF.irem dL_does_549 (by decide) ?_
        rw [pk_rem (by omega) (by omega) (by omega)]
        refine AF.tbI (bc := 22) (bs := 284) hB8 dL_does_550 (v % 5) (by omega) (by rw [List.length_append, hl7, l5]; decide) (Nat.le_of_ble_eq_true rfl) (by decide) (fun F9 N9 hB9 hN9 => ?_)
        have hl9 : (((([] ++ str ";play ") ++ wrN f) ++ str "+") ++ wrN (v % 5)).length = 9 := by rw [List.length_append, List.length_append, hl7, l5, w1 _ (by omega)]
        refine AF.tbE (bc := 20) (bs := 264) hB9 dL_does_553 (by omega) (Nat.le_of_ble_eq_true rfl) (by decide) (fun F10 a9 v9 hS9 p1 p2 p3 p4 p5 hN10 => ?_)
        refine AF.goto 562 dL_does_556 (by decide) ?_
        have hle := hN9.1
        exact gm F10 a9 v9 _ _ _ (Nat.le_refl _) (Nat.le_refl _) hN10 hS9 ((((AS.nil.app a4).app (AS.num (by omega))).app a5).app (AS.num (by omega))) (by omega) (by omega) (by omega) p3 p4
    · refine AF.ldcWS dL_does_508 st_L_283 (fun as vs hs9 => ?_)
      refine AF.goto 562 dL_does_511 (by decide) ?_
      exact gc _ _ _ hs9 a3 (by omega)
  · refine AF.tbNew (bc := 26) (bs := 852) dL_does_476 dL_does_479 dL_does_480 hG4 (Nat.le_of_ble_eq_true rfl) (by decide) (fun F5 N5 hB5 => ?_)
    refine AF.ldcWS dL_does_483 st_L_277 (fun as vs hs9 => ?_)
    refine AF.tbS (bc := 25) (bs := 710) hB5 dL_does_486 (Or.inl ⟨_, hs9, rfl⟩) a2 (Or.inl ⟨_, hs9⟩) (by rw [l2]; decide) (Nat.le_of_ble_eq_true rfl) (by decide) (fun F6 N6 hB6 _ => ?_)
    refine AF.iload dL_does_489 rfl ?_
    refine AF.tbI (bc := 24) (bs := 568) hB6 dL_does_491 beats (by omega) (by rw [List.length_append, l2]; decide) (Nat.le_of_ble_eq_true rfl) (by decide) (fun F9 N9 hB9 hN9 => ?_)
    have hl9 : (([] ++ str ";pass ") ++ wrN beats).length = 7 := by rw [List.length_append, List.length_append, l2, w1 _ (by omega)]; rfl
    refine AF.tbE (bc := 22) (bs := 548) hB9 dL_does_494 (by omega) (Nat.le_of_ble_eq_true rfl) (by decide) (fun F10 a9 v9 hS9 p1 p2 p3 p4 p5 hN10 => ?_)
    refine AF.goto 562 dL_does_497 (by decide) ?_
    have hle := hN9.1
    exact gm F10 a9 v9 _ _ _ (by decide) (by decide) hN10 hS9 ((AS.nil.app a2).app (AS.num (by omega))) (by omega) (by omega) (by omega) p3 p4
set_option maxRecDepth 100000 in
set_option maxHeartbeats 4000000 in
theorem L_does_ok (hs : SCR G b L xs) (hL : L ≤ 260) {k kind beats : Nat} (hK0 : LK G c Y B bv0 F0) (ha : gN G ≤ c) (hB : B + 2480 ≤ 2 ^ 21) (hW : WI Y.1) (hk : k ≤ 300) (hkd : kind < 44) (hbe : beats < 6) : AC G mL_does 14 32 1176 [.ref b, .int (nI k), .int (nI kind), .ref c, .int (nI beats)] F0 (LE (DP G c Y B kind beats) c bv0 F0) := by
  have hq := hK0.q
  have b1 := hq.2.2.1
  have b2 := hq.2.2.2.1
  obtain ⟨v, ev⟩ : ∃ v, v = pkv L xs (k + 2) 1000 := ⟨_, rfl⟩
  obtain ⟨x, ex⟩ : ∃ x, x = pkv L xs (k + 3) 4000 := ⟨_, rfl⟩
  have hv : v < 1000 := by rw [ev]; exact pkv_lt (by decide)
  have hx : x < 4000 := by rw [ex]; exact pkv_lt (by decide)
  have sw : ∀ F bv j f, j ≤ 10 → f ≤ 5 → LK G c Y B bv F → XF c bv0 bv F0 F → AF G mL_does 14 32 1176 (LE (DP G c Y B kind beats) c bv0 F0) F 88 [some (.ref b), some (.int (nI k)), some (.int (nI kind)), some (.ref c), some (.int (nI beats)), some (.int (nI v)), some (.int (nI x)), some (.int (nI j)), some (.int (nI f))] [] := by
    intro F bv j f hj hf hK hX
    refine AF.iload_n dL_does_88 rfl ?_
    rcases (by omega : kind = 0 ∨ kind = 1 ∨ kind = 2 ∨ kind = 3 ∨ kind = 4 ∨ kind = 5 ∨ kind = 6 ∨ kind = 7 ∨ kind = 8 ∨ kind = 9 ∨ kind = 10 ∨ kind = 11 ∨ kind = 12 ∨ kind = 13 ∨ kind = 14 ∨ kind = 15 ∨ kind = 16 ∨ kind = 17 ∨ kind = 18 ∨ kind = 19 ∨ kind = 20 ∨ kind = 21 ∨ kind = 22 ∨ kind = 23 ∨ kind = 24 ∨ kind = 25 ∨ kind = 26 ∨ kind = 27 ∨ kind = 28 ∨ kind = 29 ∨ kind = 30 ∨ kind = 31 ∨ kind = 32 ∨ kind = 33 ∨ kind = 34 ∨ kind = 35 ∨ kind = 36 ∨ kind = 37 ∨ kind = 38 ∨ kind = 39 ∨ kind = 40 ∨ kind = 41 ∨ kind = 42 ∨ kind = 43) with e | e | e | e | e | e | e | e | e | e | e | e | e | e | e | e | e | e | e | e | e | e | e | e | e | e | e | e | e | e | e | e | e | e | e | e | e | e | e | e | e | e | e | e
    · exact AF.switchIn (off := 179) 268 dL_does_89 (by rw [e]; decide) (by rw [e]; decide) (by rw [e]; rfl) (by decide) (D_addJet hK0 ha hB hW (by omega) hv hx hj hf hbe hK hX)
    · exact AF.switchIn (off := 179) 268 dL_does_89 (by rw [e]; decide) (by rw [e]; decide) (by rw [e]; rfl) (by decide) (D_addJet hK0 ha hB hW (by omega) hv hx hj hf hbe hK hX)
    · exact AF.switchIn (off := 179) 268 dL_does_89 (by rw [e]; decide) (by rw [e]; decide) (by rw [e]; rfl) (by decide) (D_addJet hK0 ha hB hW (by omega) hv hx hj hf hbe hK hX)
    · exact AF.switchIn (off := 179) 268 dL_does_89 (by rw [e]; decide) (by rw [e]; decide) (by rw [e]; rfl) (by decide) (D_addJet hK0 ha hB hW (by omega) hv hx hj hf hbe hK hX)
    · exact AF.switchIn (off := 207) 296 dL_does_89 (by rw [e]; decide) (by rw [e]; decide) (by rw [e]; rfl) (by decide) (D_removeJet hK0 ha hB hW (by omega) hv hx hj hf hbe hK hX)
    · exact AF.switchIn (off := 214) 303 dL_does_89 (by rw [e]; decide) (by rw [e]; decide) (by rw [e]; rfl) (by decide) (D_setOpening hK0 ha hB hW (by omega) hv hx hj hf hbe hK hX)
    · exact AF.switchIn (off := 214) 303 dL_does_89 (by rw [e]; decide) (by rw [e]; decide) (by rw [e]; rfl) (by decide) (D_setOpening hK0 ha hB hW (by omega) hv hx hj hf hbe hK hX)
    · exact AF.switchIn (off := 214) 303 dL_does_89 (by rw [e]; decide) (by rw [e]; decide) (by rw [e]; rfl) (by decide) (D_setOpening hK0 ha hB hW (by omega) hv hx hj hf hbe hK hX)
    · exact AF.switchIn (off := 214) 303 dL_does_89 (by rw [e]; decide) (by rw [e]; decide) (by rw [e]; rfl) (by decide) (D_setOpening hK0 ha hB hW (by omega) hv hx hj hf hbe hK hX)
    · exact AF.switchIn (off := 214) 303 dL_does_89 (by rw [e]; decide) (by rw [e]; decide) (by rw [e]; rfl) (by decide) (D_setOpening hK0 ha hB hW (by omega) hv hx hj hf hbe hK hX)
    · exact AF.switchIn (off := 214) 303 dL_does_89 (by rw [e]; decide) (by rw [e]; decide) (by rw [e]; rfl) (by decide) (D_setOpening hK0 ha hB hW (by omega) hv hx hj hf hbe hK hX)
    · exact AF.switchIn (off := 226) 315 dL_does_89 (by rw [e]; decide) (by rw [e]; decide) (by rw [e]; rfl) (by decide) (D_setCapacity hK0 ha hB hW (by omega) hv hx hj hf hbe hK hX)
    · exact AF.switchIn (off := 252) 341 dL_does_89 (by rw [e]; decide) (by rw [e]; decide) (by rw [e]; rfl) (by decide) (D_setWind hK0 ha hB hW (by omega) hv hx hj hf hbe hK hX)
    · exact AF.switchIn (off := 252) 341 dL_does_89 (by rw [e]; decide) (by rw [e]; decide) (by rw [e]; rfl) (by decide) (D_setWind hK0 ha hB hW (by omega) hv hx hj hf hbe hK hX)
    · exact AF.switchIn (off := 265) 354 dL_does_89 (by rw [e]; decide) (by rw [e]; decide) (by rw [e]; rfl) (by decide) (D_trim hK0 ha hB hW (by omega) hv hx hj hf hbe hK hX)
    · exact AF.switchIn (off := 265) 354 dL_does_89 (by rw [e]; decide) (by rw [e]; decide) (by rw [e]; rfl) (by decide) (D_trim hK0 ha hB hW (by omega) hv hx hj hf hbe hK hX)
    · exact AF.switchIn (off := 270) 359 dL_does_89 (by rw [e]; decide) (by rw [e]; decide) (by rw [e]; rfl) (by decide) (D_addFigure hK0 ha hB hW (by omega) hv hx hj hf hbe hK hX)
    · exact AF.switchIn (off := 270) 359 dL_does_89 (by rw [e]; decide) (by rw [e]; decide) (by rw [e]; rfl) (by decide) (D_addFigure hK0 ha hB hW (by omega) hv hx hj hf hbe hK hX)
    · exact AF.switchIn (off := 275) 364 dL_does_89 (by rw [e]; decide) (by rw [e]; decide) (by rw [e]; rfl) (by decide) (D_removeFigure hK0 ha hB hW (by omega) hv hx hj hf hbe hK hX)
    · exact AF.switchIn (off := 282) 371 dL_does_89 (by rw [e]; decide) (by rw [e]; decide) (by rw [e]; rfl) (by decide) (D_removeStep hK0 ha hB hW (by omega) hv hx hj hf hbe hK hX)
    · exact AF.switchIn (off := 293) 382 dL_does_89 (by rw [e]; decide) (by rw [e]; decide) (by rw [e]; rfl) (by decide) (D_addStep hK0 ha hB hW (by omega) hv hx hj hf hbe hK hX)
    · exact AF.switchIn (off := 293) 382 dL_does_89 (by rw [e]; decide) (by rw [e]; decide) (by rw [e]; rfl) (by decide) (D_addStep hK0 ha hB hW (by omega) hv hx hj hf hbe hK hX)
    · exact AF.switchIn (off := 293) 382 dL_does_89 (by rw [e]; decide) (by rw [e]; decide) (by rw [e]; rfl) (by decide) (D_addStep hK0 ha hB hW (by omega) hv hx hj hf hbe hK hX)
    · exact AF.switchIn (off := 293) 382 dL_does_89 (by rw [e]; decide) (by rw [e]; decide) (by rw [e]; rfl) (by decide) (D_addStep hK0 ha hB hW (by omega) hv hx hj hf hbe hK hX)
    · exact AF.switchIn (off := 293) 382 dL_does_89 (by rw [e]; decide) (by rw [e]; decide) (by rw [e]; rfl) (by decide) (D_addStep hK0 ha hB hW (by omega) hv hx hj hf hbe hK hX)
    · exact AF.switchIn (off := 293) 382 dL_does_89 (by rw [e]; decide) (by rw [e]; decide) (by rw [e]; rfl) (by decide) (D_addStep hK0 ha hB hW (by omega) hv hx hj hf hbe hK hX)
    · exact AF.switchIn (off := 293) 382 dL_does_89 (by rw [e]; decide) (by rw [e]; decide) (by rw [e]; rfl) (by decide) (D_addStep hK0 ha hB hW (by omega) hv hx hj hf hbe hK hX)
    · exact AF.switchIn (off := 293) 382 dL_does_89 (by rw [e]; decide) (by rw [e]; decide) (by rw [e]; rfl) (by decide) (D_addStep hK0 ha hB hW (by omega) hv hx hj hf hbe hK hX)
    · exact AF.switchIn (off := 293) 382 dL_does_89 (by rw [e]; decide) (by rw [e]; decide) (by rw [e]; rfl) (by decide) (D_addStep hK0 ha hB hW (by omega) hv hx hj hf hbe hK hX)
    · exact AF.switchIn (off := 325) 414 dL_does_89 (by rw [e]; decide) (by rw [e]; decide) (by rw [e]; rfl) (by decide) (D_play hK0 ha hB hW (by omega) hv hx hj hf hbe hK hX)
    · exact AF.switchIn (off := 325) 414 dL_does_89 (by rw [e]; decide) (by rw [e]; decide) (by rw [e]; rfl) (by decide) (D_play hK0 ha hB hW (by omega) hv hx hj hf hbe hK hX)
    · exact AF.switchIn (off := 325) 414 dL_does_89 (by rw [e]; decide) (by rw [e]; decide) (by rw [e]; rfl) (by decide) (D_play hK0 ha hB hW (by omega) hv hx hj hf hbe hK hX)
    · exact AF.switchIn (off := 325) 414 dL_does_89 (by rw [e]; decide) (by rw [e]; decide) (by rw [e]; rfl) (by decide) (D_play hK0 ha hB hW (by omega) hv hx hj hf hbe hK hX)
    · exact AF.switchIn (off := 325) 414 dL_does_89 (by rw [e]; decide) (by rw [e]; decide) (by rw [e]; rfl) (by decide) (D_play hK0 ha hB hW (by omega) hv hx hj hf hbe hK hX)
    · exact AF.switchIn (off := 337) 426 dL_does_89 (by rw [e]; decide) (by rw [e]; decide) (by rw [e]; rfl) (by decide) (D_cancel hK0 ha hB hW (by omega) hv hx hj hf hbe hK hX)
    · exact AF.switchIn (off := 351) 440 dL_does_89 (by rw [e]; decide) (by rw [e]; decide) (by rw [e]; rfl) (by decide) (D_pass hK0 ha hB hW (by omega) hv hx hj hf hbe hK hX)
    · exact AF.switchIn (off := 351) 440 dL_does_89 (by rw [e]; decide) (by rw [e]; decide) (by rw [e]; rfl) (by decide) (D_pass hK0 ha hB hW (by omega) hv hx hj hf hbe hK hX)
    · exact AF.switchIn (off := 351) 440 dL_does_89 (by rw [e]; decide) (by rw [e]; decide) (by rw [e]; rfl) (by decide) (D_pass hK0 ha hB hW (by omega) hv hx hj hf hbe hK hX)
    · exact AF.switchIn (off := 351) 440 dL_does_89 (by rw [e]; decide) (by rw [e]; decide) (by rw [e]; rfl) (by decide) (D_pass hK0 ha hB hW (by omega) hv hx hj hf hbe hK hX)
    · exact AF.switchIn (off := 351) 440 dL_does_89 (by rw [e]; decide) (by rw [e]; decide) (by rw [e]; rfl) (by decide) (D_pass hK0 ha hB hW (by omega) hv hx hj hf hbe hK hX)
    · exact AF.switchIn (off := 351) 440 dL_does_89 (by rw [e]; decide) (by rw [e]; decide) (by rw [e]; rfl) (by decide) (D_pass hK0 ha hB hW (by omega) hv hx hj hf hbe hK hX)
    · exact AF.switchOut 447 dL_does_89 (by rw [e]; decide) (by decide) (D_text hK0 ha hB hW (by omega) hv hx hj hf hbe hK hX)
    · exact AF.switchOut 447 dL_does_89 (by rw [e]; decide) (by decide) (D_text hK0 ha hB hW (by omega) hv hx hj hf hbe hK hX)
    · exact AF.switchOut 447 dL_does_89 (by rw [e]; decide) (by decide) (D_text hK0 ha hB hW (by omega) hv hx hj hf hbe hK hX)
  have k2 : ∀ F bv j, j ≤ 10 → LK G c Y B bv F → XF c bv0 bv F0 F → AF G mL_does 14 32 1176 (LE (DP G c Y B kind beats) c bv0 F0) F 58 [some (.ref b), some (.int (nI k)), some (.int (nI kind)), some (.ref c), some (.int (nI beats)), some (.int (nI v)), some (.int (nI x)), some (.int (nI j)), none] [] := by
    intro F bv j hj hK hX
    have g : ∀ F bv e, LK G c Y B bv F → XF c bv0 bv F0 F → 0 < Y.1.Fg.length + e → e ≤ 1 → AF G mL_does 14 32 1176 (LE (DP G c Y B kind beats) c bv0 F0) F 84 [some (.ref b), some (.int (nI k)), some (.int (nI kind)), some (.ref c), some (.int (nI beats)), some (.int (nI v)), some (.int (nI x)), some (.int (nI j)), none] [.int (nI e), .int (nI Y.1.Fg.length), .int (nI x)] := by
      intro F bv e hK hX h0 he
      refine AF.iadd dL_does_84 ?_
      rw [nI_add]
      refine AF.irem dL_does_85 (nI_ne0 h0 (by omega)) ?_
      rw [pk_rem (by omega) h0 (by omega)]
      have hm := Nat.mod_lt x h0
      refine AF.istore dL_does_86 (by decide) ?_
      exact sw F bv j _ hj (by omega) hK hX
    refine AF.iload dL_does_58 rfl ?_
    refine AF.aload_n dL_does_60 rfl ?_
    refine AF.lv (mc' := 0) (ms' := 0) (bc := 32) (bs := 1176) dL_does_61 kv_L_233 (Y_figureCount hK) hK.c0.choose_spec rfl hX rfl rfl (Nat.le_of_ble_eq_true rfl) (by decide) rfl (fun F bv hK hX => ?_)
    refine AF.iload dL_does_64 rfl ?_
    refine AF.bipush (nI 13) dL_does_66 (by decide) ?_
    refine AF.irem dL_does_68 (by decide) ?_
    rw [pk_rem (by omega) (by omega) (by omega)]
    refine AF.if_eq 79 dL_does_69 (by decide) (fun c1 => ?_) (fun c1 => ?_)
    · refine AF.iconst (nI 1) dL_does_79 (by decide) ?_
      refine AF.goto 84 dL_does_80 (by decide) ?_
      exact g F bv 1 hK hX (by omega) (by omega)
    · refine AF.aload_n dL_does_72 rfl ?_
      refine AF.lv (mc' := 0) (ms' := 0) (bc := 32) (bs := 1176) dL_does_73 kv_L_233 (Y_figureCount hK) hK.c0.choose_spec rfl hX rfl rfl (Nat.le_of_ble_eq_true rfl) (by decide) rfl (fun F bv hK hX => ?_)
      refine AF.if_ne 83 dL_does_76 (by decide) (fun c2 => ?_) (fun c2 => ?_)
      · refine AF.iconst (nI 0) dL_does_83 (by decide) ?_
        exact g F bv 0 hK hX (Nat.pos_of_ne_zero (fun z => c2 (by have z : Y.1.Fg.length = 0 := z; rw [z]; rfl))) (by omega)
      · refine AF.iconst (nI 1) dL_does_79 (by decide) ?_
        refine AF.goto 84 dL_does_80 (by decide) ?_
        exact g F bv 1 hK hX (by omega) (by omega)
  have k1 : ∀ F bv e, LK G c Y B bv F → XF c bv0 bv F0 F → 0 < Y.1.J.length + e → e ≤ 1 → AF G mL_does 14 32 1176 (LE (DP G c Y B kind beats) c bv0 F0) F 52 [some (.ref b), some (.int (nI k)), some (.int (nI kind)), some (.ref c), some (.int (nI beats)), some (.int (nI v)), some (.int (nI x)), none, none] [.int (nI e), .int (nI Y.1.J.length), .int (nI (k + 4)), .ref b] := by
    intro F bv e hK hX h0 he
    refine AF.iadd dL_does_52 ?_
    rw [nI_add]
    have hm := pkv_lt (L := L) (xs := xs) (k := k + 4) h0
    refine AF.s1 dL_does_53 kv_L_188 ((L_pick_ok hs hL (k + 4) (Y.1.J.length + e) (by omega) h0 (by omega))) rfl rfl (Nat.le_of_ble_eq_true rfl) (by decide) rfl ?_
    refine AF.istore dL_does_56 (by decide) ?_
    exact k2 F bv _ (by omega) hK hX
  refine AC.of [some (.ref b), some (.int (nI k)), some (.int (nI kind)), some (.ref c), some (.int (nI beats)), none, none, none, none] rfl (by decide) (Nat.le_of_ble_eq_true rfl) rfl ?_
  have hX : XF c bv0 bv0 F0 F0 := XF.rf
  have hK := hK0
  refine AF.aload_n dL_does_0 rfl ?_
  refine AF.iload_n dL_does_1 rfl ?_
  refine AF.iconst (nI 2) dL_does_2 (by decide) ?_
  refine AF.iadd dL_does_3 ?_
  rw [nI_add]
  refine AF.sipush (nI 1000) dL_does_4 (by decide) ?_
  refine AF.s1 dL_does_7 kv_L_188 ((L_pick_ok hs hL (k + 2) 1000 (by omega) (by decide) (by decide))) rfl rfl (Nat.le_of_ble_eq_true rfl) (by decide) rfl ?_
  rw [← ev]
  refine AF.istore dL_does_10 (by decide) ?_
  refine AF.aload_n dL_does_12 rfl ?_
  refine AF.iload_n dL_does_13 rfl ?_
  refine AF.iconst (nI 3) dL_does_14 (by decide) ?_
  refine AF.iadd dL_does_15 ?_
  rw [nI_add]
  refine AF.sipush (nI 4000) dL_does_16 (by decide) ?_
  refine AF.s1 dL_does_19 kv_L_188 ((L_pick_ok hs hL (k + 3) 4000 (by omega) (by decide) (by decide))) rfl rfl (Nat.le_of_ble_eq_true rfl) (by decide) rfl ?_
  rw [← ex]
  refine AF.istore dL_does_22 (by decide) ?_
  refine AF.aload_n dL_does_24 rfl ?_
  refine AF.iload_n dL_does_25 rfl ?_
  refine AF.iconst (nI 4) dL_does_26 (by decide) ?_
  refine AF.iadd dL_does_27 ?_
  rw [nI_add]
  refine AF.aload_n dL_does_28 rfl ?_
  refine AF.lv (mc' := 0) (ms' := 0) (bc := 32) (bs := 1176) dL_does_29 kv_L_230 (Y_jetCount hK) hK.c0.choose_spec rfl hX rfl rfl (Nat.le_of_ble_eq_true rfl) (by decide) rfl (fun F bv hK hX => ?_)
  refine AF.iload dL_does_32 rfl ?_
  refine AF.bipush (nI 17) dL_does_34 (by decide) ?_
  refine AF.irem dL_does_36 (by decide) ?_
  rw [pk_rem (by omega) (by omega) (by omega)]
  refine AF.if_eq 47 dL_does_37 (by decide) (fun c1 => ?_) (fun c1 => ?_)
  · refine AF.iconst (nI 1) dL_does_47 (by decide) ?_
    refine AF.goto 52 dL_does_48 (by decide) ?_
    exact k1 F bv 1 hK hX (by omega) (by omega)
  · refine AF.aload_n dL_does_40 rfl ?_
    refine AF.lv (mc' := 0) (ms' := 0) (bc := 32) (bs := 1176) dL_does_41 kv_L_230 (Y_jetCount hK) hK.c0.choose_spec rfl hX rfl rfl (Nat.le_of_ble_eq_true rfl) (by decide) rfl (fun F bv hK hX => ?_)
    refine AF.if_ne 51 dL_does_44 (by decide) (fun c2 => ?_) (fun c2 => ?_)
    · refine AF.iconst (nI 0) dL_does_51 (by decide) ?_
      exact k1 F bv 0 hK hX (Nat.pos_of_ne_zero (fun z => c2 (by have z : Y.1.J.length = 0 := z; rw [z]; rfl))) (by omega)
    · refine AF.iconst (nI 1) dL_does_47 (by decide) ?_
      refine AF.goto 52 dL_does_48 (by decide) ?_
      exact k1 F bv 1 hK hX (by omega) (by omega)
end

