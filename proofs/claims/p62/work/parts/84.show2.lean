/-! The show: what its calls answer; asking, refusing, remembering. -/
abbrev eIx : String := "java/lang/IndexOutOfBoundsException"
abbrev eAr : String := "java/lang/IllegalArgumentException"
abbrev eUn : String := "java/lang/UnsupportedOperationException"
abbrev eSt : String := "java/lang/IllegalStateException"
abbrev eNo : String := "java/util/NoSuchElementException"
abbrev eAi : String := "java/lang/ArithmeticException"
/-- an answer, or what is thrown: the p-th of es (0: nothing) -/
def rx (es : List String) (p : Nat) (v : Value) : AR := if p = 0 then .inl (some v) else .inr (es.getD (p - 1) "")
def Pex : Nat → String
  | 1 => eIx
  | 2 => eAr
  | 3 => eUn
  | _ => eSt
/-- only the show is written; what is made is new -/
def XF (c bv bv' : Nat) (F F' : AH) : Prop := F.1 ≤ F'.1 ∧ (bv' = bv ∨ F.1 ≤ bv') ∧ ∀ q, q < F.1 → (q < c ∨ c + 131 ≤ q) → ¬ q = bv → F'.2 q = F.2 q
theorem XF.rf {c bv : Nat} {F : AH} : XF c bv bv F F := ⟨Nat.le_refl _, Or.inl rfl, fun _ _ _ _ => rfl⟩
theorem XF.fr {c bv lo hi : Nat} {F F' : AH} (h : Fr lo hi F F') (h1 : c ≤ lo) (h2 : hi ≤ c + 131) : XF c bv bv F F' := ⟨Nat.le_of_eq h.1.symm, Or.inl rfl, fun q _ d _ => h.2 q (by omega)⟩
theorem XF.more {c bv bv' n : Nat} {F F' : AH} (h : XF c bv bv' F F') (hn : F'.1 ≤ n) : XF c bv bv' F (more F' n) := ⟨Nat.le_trans h.1 hn, h.2.1, h.2.2⟩
theorem XF.trans {c bv bv' bv'' : Nat} {F F' F'' : AH} (h : XF c bv bv' F F') (k : XF c bv' bv'' F' F'') : XF c bv bv'' F F'' := by
  obtain ⟨h1, h2, h3⟩ := h
  obtain ⟨k1, k2, k3⟩ := k
  exact ⟨Nat.le_trans h1 k1, by omega, fun q a b d => (k3 q (by omega) b (by omega)).trans (h3 q a b d)⟩
def XQ (G : GA) (c bv : Nat) (X' : XS) (r0 : AR) (F0 : AH) : AR → AH → Prop := fun r F' => r = r0 ∧ ∃ bv', CX G F' c bv' X' ∧ XF c bv bv' F0 F'
/-- nothing, or E is thrown -/
def RQ (P : Prop) (E : String) (F : AH) : AR → AH → Prop := fun r F' => (P ∧ r = .inl none ∧ F' = F) ∨ (¬ P ∧ r = .inr E ∧ ∃ n, F.1 ≤ n ∧ F' = more F n)
theorem RQ.x {P : Prop} {E E' : String} {F F' : AH} (h : RQ P E F (.inr E') F') : ¬ P ∧ E' = E ∧ ∃ n, F.1 ≤ n ∧ F' = more F n := by
  rcases h with ⟨-, h, -⟩ | ⟨h1, h2, h3⟩
  · cases h
  · cases h2; exact ⟨h1, rfl, h3⟩
theorem RQ.n {P : Prop} {E : String} {F F' : AH} {v : Option Value} (h : RQ P E F (.inl v) F') : P ∧ v = none ∧ F' = F := by
  rcases h with ⟨h1, h2, h3⟩ | ⟨-, h, -⟩
  · cases h2; exact ⟨h1, rfl, h3⟩
  · cases h
section
variable {G : GA} {F F' : AH} {c bv : Nat} {X : XS} {σ τ : Sg} {T : List Int32} {es : List String} {p : Nat} {v : Value}
theorem CX.more {n : Nat} (h : CX G F c bv X) (hn : F.1 ≤ n) : CX G (more F n) c bv X := h.kept (fun _ _ _ => rfl) rfl hn
theorem CX.sgm (h : CX G F c bv X) (hS : SA G F' (c + 1) σ) (q : Fr (c + 1) (c + 12) F F') : CX G F' c bv (σ, X.sv, X.hs, X.tx, X.ou, X.er, X.fa) := by
  obtain ⟨hn, hf, ⟨h0, h1⟩, h2, h3, ⟨τ, h4⟩, ⟨τ', h5, h6⟩, h7, h8, ⟨pl, cc, cm, ns, h9⟩, h10⟩ := h
  have hb := h10.2
  exact ⟨hn, hf, ⟨(q.2 c (by omega)).trans h0, (q.2 (c + 34) (by omega)).trans h1⟩, h2, hS, ⟨τ, h4.fr q (by omega)⟩, ⟨τ', h5.fr q (by omega), h6⟩, h7.kept (fun x x1 x2 => q.2 x (by omega)), h8.fr q (by omega), ⟨pl, cc, cm, ns, h9.fr q (by omega)⟩, h10.kept (q.2 (c + 41) (by omega)) (q.2 bv (by omega)) (Nat.le_of_eq q.1.symm)⟩
theorem CX.trl (h : CX G F c bv X) (hS : SA G F' (c + 12) σ) (q : Fr (c + 12) (c + 23) F F') : CX G F' c bv X := by
  obtain ⟨hn, hf, ⟨h0, h1⟩, h2, h3, ⟨τ, h4⟩, ⟨τ', h5, h6⟩, h7, h8, ⟨pl, cc, cm, ns, h9⟩, h10⟩ := h
  have hb := h10.2
  exact ⟨hn, hf, ⟨(q.2 c (by omega)).trans h0, (q.2 (c + 34) (by omega)).trans h1⟩, h2, h3.fr q (by omega), ⟨σ, hS⟩, ⟨τ', h5.fr q (by omega), h6⟩, h7.kept (fun x x1 x2 => q.2 x (by omega)), h8.fr q (by omega), ⟨pl, cc, cm, ns, h9.fr q (by omega)⟩, h10.kept (q.2 (c + 41) (by omega)) (q.2 bv (by omega)) (Nat.le_of_eq q.1.symm)⟩
theorem CX.srt (h : CX G F c bv X) (hS : LSA G F' (c + 35)) (q : Fr (c + 35) (c + 38) F F') : CX G F' c bv X := by
  obtain ⟨hn, hf, ⟨h0, h1⟩, h2, h3, ⟨τ, h4⟩, ⟨τ', h5, h6⟩, h7, h8, ⟨pl, cc, cm, ns, h9⟩, h10⟩ := h
  have hb := h10.2
  exact ⟨hn, hf, ⟨(q.2 c (by omega)).trans h0, (q.2 (c + 34) (by omega)).trans h1⟩, h2, h3.fr q (by omega), ⟨τ, h4.fr q (by omega)⟩, ⟨τ', h5.fr q (by omega), h6⟩, h7.kept (fun x x1 x2 => q.2 x (by omega)), hS, ⟨pl, cc, cm, ns, h9.fr q (by omega)⟩, h10.kept (q.2 (c + 41) (by omega)) (q.2 bv (by omega)) (Nat.le_of_eq q.1.symm)⟩
theorem CX.scr (h : CX G F c bv X) (hS : TSA G F' (c + 38) T) (q : Fr (c + 38) (c + 41) F F') : CX G F' c bv (X.sg, X.sv, X.hs, T, X.ou, X.er, X.fa) := by
  obtain ⟨hn, hf, ⟨h0, h1⟩, h2, h3, ⟨τ, h4⟩, ⟨τ', h5, h6⟩, h7, h8, -, h10⟩ := h
  have hb := h10.2
  exact ⟨hn, hf, ⟨(q.2 c (by omega)).trans h0, (q.2 (c + 34) (by omega)).trans h1⟩, h2, h3.fr q (by omega), ⟨τ, h4.fr q (by omega)⟩, ⟨τ', h5.fr q (by omega), h6⟩, h7.kept (fun x x1 x2 => q.2 x (by omega)), h8.fr q (by omega), hS, h10.kept (q.2 (c + 41) (by omega)) (q.2 bv (by omega)) (Nat.le_of_eq q.1.symm)⟩
theorem SA.jt {b cap : Nat} {J : List Jt} {w : Int32} (h : SA G F b σ) (hJ : JA G F' (b + 1) J cap w) (q : Fr (b + 1) (b + 4) F F') : SA G F' b (J, cap, w, σ.Fg, σ.E, σ.bt, σ.pum, σ.sht) := by
  obtain ⟨ef, es, ⟨s0, s9, s10⟩, hE, -, hG⟩ := h
  exact ⟨ef, es, ⟨(q.2 b (by omega)).trans s0, (q.2 (b + 9) (by omega)).trans s9, (q.2 (b + 10) (by omega)).trans s10⟩, hE, hJ, hG.fr q (by omega)⟩
theorem SA.fgu {b : Nat} {L : List (List Sp)} (h : SA G F b σ) (hG : FA G F' (b + 4) L) (q : Fr (b + 4) (b + 9) F F') : SA G F' b (σ.J, σ.cap, σ.w, L, σ.E, σ.bt, σ.pum, σ.sht) := by
  obtain ⟨ef, es, ⟨s0, s9, s10⟩, hE, hJ, -⟩ := h
  exact ⟨ef, es, ⟨(q.2 b (by omega)).trans s0, (q.2 (b + 9) (by omega)).trans s9, (q.2 (b + 10) (by omega)).trans s10⟩, hE, hJ.fr q (by omega), hG⟩
theorem XQ.ok (h : CX G F c bv X) (hp : p = 0) : XQ G c bv X (rx es p v) F (.inl (some v)) F := ⟨by unfold rx; rw [if_pos hp], bv, h, XF.rf⟩
theorem XQ.x {E : String} {n : Nat} (h : CX G F c bv X) (hp : ¬ p = 0) (he : es.getD (p - 1) "" = E) (hn : F.1 ≤ n) : XQ G c bv X (rx es p v) F (.inr E) (more F n) := ⟨by unfold rx; rw [if_neg hp, he], bv, h.more hn, XF.rf.more hn⟩
theorem XQ.x1 {E : String} {b : Bool} {n : Nat} (h : CX G F c bv X) (hb : ¬ b = true) (hn : F.1 ≤ n) : XQ G c bv X (rx [E] (if b = true then 0 else 1) v) F (.inr E) (more F n) := by
  rw [if_neg hb]
  exact XQ.x h (by decide) rfl hn
theorem XQ.cx {E : String} {n : Nat} (h : CX G F c bv X) (hp : ¬ p = 0) (he : es.getD (p - 1) "" = E) (hn : F.1 ≤ n) : XQ G c bv (chX X σ p) (rx es p v) F (.inr E) (more F n) := by
  rw [show chX X σ p = X from if_neg hp]
  exact XQ.x h hp he hn
/-- a change was remembered -/
def RM (G : GA) (c bv : Nat) (X : XS) (F0 : AH) : AR → AH → Prop := fun r F' => r = .inl none ∧ CX G F' c bv (X.sg, X.sv, pushH X.hs X.sg, X.tx, X.ou, X.er, X.fa) ∧ Fr c (c + 131) F0 F' ∧ ∀ q, c < q → q < c + 43 → F'.2 q = F0.2 q
theorem XQ.cn {F0 : AH} (h : CX G F c bv (X.sg, X.sv, pushH X.hs X.sg, X.tx, X.ou, X.er, X.fa)) (q0 : Fr c (c + 131) F0 F) (hS : SA G F' (c + 1) σ) (q : Fr (c + 1) (c + 12) F F') (hp : p = 0) : XQ G c bv (chX X σ p) (rx es p v) F0 (.inl (some v)) F' := by
  rw [show chX X σ p = _ from if_pos hp]
  exact ⟨by unfold rx; rw [if_pos hp], bv, h.sgm hS q, XF.fr (q0.trans q (by omega) (by omega)) (Nat.le_refl _) (Nat.le_refl _)⟩
set_option maxRecDepth 100000 in
theorem X8_refuse_ok (p : Nat) (hp : p < 5) : AC G mX8_refuse 10 1 6 [.ref (gk G p)] F (RQ (p = 0) (Pex p) F) := by
  refine AC.of [some (.ref (gk G p))] rfl (by decide) (Nat.le_of_ble_eq_true rfl) rfl (AF.ok fun hK => ?_)
  have hY := hK.2.2.2.2.2.2.1.1 p hp
  have hM := hK.2.2.2.2.2.2.1.2.2.1
  refine AF.getstatic dX8_refuse_0 gs_X8_360 (hM.1) ?_
  refine AF.aload_n dX8_refuse_3 rfl ?_
  refine AF.uc1 dX8_refuse_4 ku_X8_365 (E_ordinal_ok hY.2.2) hY.2.1 rfl rfl (Nat.le_of_ble_eq_true rfl) (by decide) rfl ?_
  refine AF.ialoadT p dX8_refuse_7 hM.2 rfl hp (by decide) rfl ?_
  rcases (by omega : p = 0 ∨ p = 1 ∨ p = 2 ∨ p = 3 ∨ p = 4) with rfl | rfl | rfl | rfl | rfl
  · refine AF.switchOut 84 dX8_refuse_8 (by decide) (by decide) ?_
    exact AF.vreturn dX8_refuse_84 rfl (Or.inl ⟨rfl, rfl, rfl⟩)
  · refine AF.switchIn 40 dX8_refuse_8 (by decide) (by decide) rfl (by decide) ?_
    exact AF.throwSW (bc := 0) (bs := 0) th_X8_305_370_309 dX8_refuse_40 dX8_refuse_43 dX8_refuse_44 dX8_refuse_47 dX8_refuse_50 rfl (by decide) (Nat.le_of_ble_eq_true rfl) (fun n hn => Or.inr ⟨by decide, rfl, n, hn, rfl⟩)
  · refine AF.switchIn 51 dX8_refuse_8 (by decide) (by decide) rfl (by decide) ?_
    exact AF.throwSW (bc := 0) (bs := 0) th_X8_331_372_335 dX8_refuse_51 dX8_refuse_54 dX8_refuse_55 dX8_refuse_58 dX8_refuse_61 rfl (by decide) (Nat.le_of_ble_eq_true rfl) (fun n hn => Or.inr ⟨by decide, rfl, n, hn, rfl⟩)
  · refine AF.switchIn 62 dX8_refuse_8 (by decide) (by decide) rfl (by decide) ?_
    exact AF.throwSW (bc := 0) (bs := 0) th_X8_342_374_346 dX8_refuse_62 dX8_refuse_65 dX8_refuse_66 dX8_refuse_69 dX8_refuse_72 rfl (by decide) (Nat.le_of_ble_eq_true rfl) (fun n hn => Or.inr ⟨by decide, rfl, n, hn, rfl⟩)
  · refine AF.switchIn 73 dX8_refuse_8 (by decide) (by decide) rfl (by decide) ?_
    exact AF.throwSW (bc := 0) (bs := 0) th_X8_318_376_322 dX8_refuse_73 dX8_refuse_76 dX8_refuse_77 dX8_refuse_80 dX8_refuse_83 rfl (by decide) (Nat.le_of_ble_eq_true rfl) (fun n hn => Or.inr ⟨by decide, rfl, n, hn, rfl⟩)
set_option maxRecDepth 100000 in
theorem X8_requireJet_ok (hC : CX G F c bv X) (x : Int32) : AC G mX8_requireJet 10 1 6 [.ref c, .int x] F (RQ (hasB X.sg.J.length x = true) eIx F) := by
  obtain ⟨hn, hf, ⟨c0, -⟩, -, ⟨ef, es, ⟨s0, -⟩, -, hJ, -⟩, -⟩ := hC
  have hH := X3_has_ok hJ x
  obtain ⟨f, g, ⟨j0, -⟩, -⟩ := hJ
  refine AC.of [some (.ref c), some (.int x)] rfl (by decide) (Nat.le_of_ble_eq_true rfl) rfl ?_
  refine AF.aload_n dX8_requireJet_0 rfl ?_
  refine AF.getfield dX8_requireJet_1 fl_X8_10 (by assumption) rfl ?_
  refine AF.getfield dX8_requireJet_4 fl_X8_64 (by assumption) rfl ?_
  refine AF.iload_n dX8_requireJet_7 rfl ?_
  refine AF.v1 dX8_requireJet_8 kv_X8_133 (hH) (by assumption) rfl rfl rfl (Nat.le_of_ble_eq_true rfl) (by decide) rfl ?_
  refine AF.if_ne 25 dX8_requireJet_11 (by decide) (fun c1 => ?_) (fun c1 => ?_)
  · exact AF.vreturn dX8_requireJet_25 rfl (Or.inl ⟨bI_n c1, rfl, rfl⟩)
  · exact AF.throwSW (bc := 0) (bs := 0) th_X8_305_378_309 dX8_requireJet_14 dX8_requireJet_17 dX8_requireJet_18 dX8_requireJet_21 dX8_requireJet_24 rfl (by decide) (Nat.le_of_ble_eq_true rfl) (fun n hn => Or.inr ⟨fun q => Bool.noConfusion (q.symm.trans (bI_z c1)), rfl, n, hn, rfl⟩)
set_option maxRecDepth 100000 in
theorem X8_requireAnyJet_ok (hC : CX G F c bv X) : AC G mX8_requireAnyJet 10 1 6 [.ref c] F (RQ (¬ X.sg.J.length = 0) eNo F) := by
  obtain ⟨hn, hf, ⟨c0, -⟩, -, ⟨ef, es, ⟨s0, -⟩, -, hJ, -⟩, -⟩ := hC
  obtain ⟨f, g, ⟨j0, -⟩, l, -⟩ := hJ
  refine AC.of [some (.ref c)] rfl (by decide) (Nat.le_of_ble_eq_true rfl) rfl ?_
  refine AF.aload_n dX8_requireAnyJet_0 rfl ?_
  refine AF.getfield dX8_requireAnyJet_1 fl_X8_10 (by assumption) rfl ?_
  refine AF.getfield dX8_requireAnyJet_4 fl_X8_64 (by assumption) rfl ?_
  refine AF.getfield dX8_requireAnyJet_7 fl_X8_100 (by assumption) rfl ?_
  refine AF.if_ne 24 dX8_requireAnyJet_10 (by decide) (fun c1 => ?_) (fun c1 => ?_)
  · refine AF.vreturn dX8_requireAnyJet_24 rfl (Or.inl ⟨fun q => c1 (by rw [q]; rfl), rfl, rfl⟩)
  · refine AF.throwNW (bc := 0) (bs := 0) th_X8_136_291_140 dX8_requireAnyJet_13 dX8_requireAnyJet_16 dX8_requireAnyJet_17 dX8_requireAnyJet_20 dX8_requireAnyJet_23 rfl (by decide) (Nat.le_of_ble_eq_true rfl) (fun n hn => Or.inr ⟨fun q => q ?_, rfl, n, hn, rfl⟩)
    have c1 : nI X.sg.J.length = nI 0 := c1
    rwa [nI_eq (by omega) (by omega)] at c1
set_option maxRecDepth 100000 in
theorem X8_requireFigure_ok (hC : CX G F c bv X) (x : Int32) : AC G mX8_requireFigure 10 1 6 [.ref c, .int x] F (RQ (hasB X.sg.Fg.length x = true) eIx F) := by
  obtain ⟨hn, hf, ⟨c0, -⟩, -, ⟨ef, es, ⟨s0, -⟩, -, -, hG⟩, -⟩ := hC
  have hH := X2_has_ok hG x
  obtain ⟨q1, q2, q3, q4, ⟨g0, -⟩, -⟩ := hG
  refine AC.of [some (.ref c), some (.int x)] rfl (by decide) (Nat.le_of_ble_eq_true rfl) rfl ?_
  refine AF.aload_n dX8_requireFigure_0 rfl ?_
  refine AF.getfield dX8_requireFigure_1 fl_X8_10 (by assumption) rfl ?_
  refine AF.getfield dX8_requireFigure_4 fl_X8_187 (by assumption) rfl ?_
  refine AF.iload_n dX8_requireFigure_7 rfl ?_
  refine AF.v1 dX8_requireFigure_8 kv_X8_380 (hH) (by assumption) rfl rfl rfl (Nat.le_of_ble_eq_true rfl) (by decide) rfl ?_
  refine AF.if_ne 25 dX8_requireFigure_11 (by decide) (fun c1 => ?_) (fun c1 => ?_)
  · exact AF.vreturn dX8_requireFigure_25 rfl (Or.inl ⟨bI_n c1, rfl, rfl⟩)
  · exact AF.throwSW (bc := 0) (bs := 0) th_X8_305_381_309 dX8_requireFigure_14 dX8_requireFigure_17 dX8_requireFigure_18 dX8_requireFigure_21 dX8_requireFigure_24 rfl (by decide) (Nat.le_of_ble_eq_true rfl) (fun n hn => Or.inr ⟨fun q => Bool.noConfusion (q.symm.trans (bI_z c1)), rfl, n, hn, rfl⟩)
set_option maxRecDepth 100000 in
theorem X8_requireStep_ok (hC : CX G F c bv X) (x y : Int32) : AC G mX8_requireStep 10 1 6 [.ref c, .int x, .int y] F (RQ (hsB X.sg.Fg x y = true) eIx F) := by
  obtain ⟨hn, hf, ⟨c0, -⟩, -, ⟨ef, es, ⟨s0, -⟩, -, -, hG⟩, -⟩ := hC
  have hH := X2_hasStep_ok hG x y
  obtain ⟨q1, q2, q3, q4, ⟨g0, -⟩, -⟩ := hG
  refine AC.of [some (.ref c), some (.int x), some (.int y)] rfl (by decide) (Nat.le_of_ble_eq_true rfl) rfl ?_
  refine AF.aload_n dX8_requireStep_0 rfl ?_
  refine AF.getfield dX8_requireStep_1 fl_X8_10 (by assumption) rfl ?_
  refine AF.getfield dX8_requireStep_4 fl_X8_187 (by assumption) rfl ?_
  refine AF.iload_n dX8_requireStep_7 rfl ?_
  refine AF.iload_n dX8_requireStep_8 rfl ?_
  refine AF.v1 dX8_requireStep_9 kv_X8_383 (hH) (by assumption) rfl rfl rfl (Nat.le_of_ble_eq_true rfl) (by decide) rfl ?_
  refine AF.if_ne 26 dX8_requireStep_12 (by decide) (fun c1 => ?_) (fun c1 => ?_)
  · exact AF.vreturn dX8_requireStep_26 rfl (Or.inl ⟨bI_n c1, rfl, rfl⟩)
  · exact AF.throwSW (bc := 0) (bs := 0) th_X8_305_387_309 dX8_requireStep_15 dX8_requireStep_18 dX8_requireStep_19 dX8_requireStep_22 dX8_requireStep_25 rfl (by decide) (Nat.le_of_ble_eq_true rfl) (fun n hn => Or.inr ⟨fun q => Bool.noConfusion (q.symm.trans (bI_z c1)), rfl, n, hn, rfl⟩)
set_option maxRecDepth 100000 in
theorem X8_requireEntry_ok (hC : CX G F c bv X) (x : Int32) : AC G mX8_requireEntry 10 1 6 [.ref c, .int x] F (RQ (hasB X.sg.E.length x = true) eIx F) := by
  obtain ⟨hn, hf, ⟨c0, -⟩, -, ⟨ef, es, ⟨s0, -⟩, -, -, -⟩, -⟩ := hC
  refine AC.of [some (.ref c), some (.int x)] rfl (by decide) (Nat.le_of_ble_eq_true rfl) rfl ?_
  have th : ¬ hasB X.sg.E.length x = true → AF G mX8_requireEntry 10 1 6 (RQ (hasB X.sg.E.length x = true) eIx F) F 15 [some (.ref c), some (.int x)] [] := fun c1 => AF.throwSW (bc := 0) (bs := 0) th_X8_305_389_309 dX8_requireEntry_15 dX8_requireEntry_18 dX8_requireEntry_19 dX8_requireEntry_22 dX8_requireEntry_25 rfl (by decide) (Nat.le_of_ble_eq_true rfl) (fun n hn => Or.inr ⟨c1, rfl, n, hn, rfl⟩)
  refine AF.iload_n dX8_requireEntry_0 rfl ?_
  refine AF.if_lt 15 dX8_requireEntry_1 (by decide) (fun c1 => ?_) (fun c1 => ?_)
  · refine th (fun q => ?_)
    unfold hasB at q
    rw [Bool.and_eq_true] at q
    exact absurd (of_decide_eq_true q.1) (Int32.not_le.mpr c1)
  · refine AF.iload_n dX8_requireEntry_4 rfl ?_
    refine AF.aload_n dX8_requireEntry_5 rfl ?_
    refine AF.getfield dX8_requireEntry_6 fl_X8_10 (by assumption) rfl ?_
    refine AF.getfield dX8_requireEntry_9 fl_X8_262 (by assumption) rfl ?_
    refine AF.icmp_lt 26 dX8_requireEntry_12 (by decide) (fun c2 => ?_) (fun c2 => ?_)
    · refine AF.vreturn dX8_requireEntry_26 rfl (Or.inl ⟨?_, rfl, rfl⟩)
      unfold hasB
      rw [decide_eq_true (Int32.not_lt.mp c1), decide_eq_true c2]
      rfl
    · refine th (fun q => ?_)
      unfold hasB at q
      rw [Bool.and_eq_true] at q
      exact absurd (of_decide_eq_true q.2) c2
set_option maxRecDepth 100000 in
theorem X8_requireForecast_ok (x : Int32) : AC G mX8_requireForecast 10 1 6 [.int x] F (RQ (inB x 0 40 = true) eAr F) := by
  refine AC.of [some (.int x)] rfl (by decide) (Nat.le_of_ble_eq_true rfl) rfl ?_
  have th : ¬ inB x 0 40 = true → AF G mX8_requireForecast 10 1 6 (RQ (inB x 0 40 = true) eAr F) F 10 [some (.int x)] [] := fun c1 => AF.throwSW (bc := 0) (bs := 0) th_X8_331_391_335 dX8_requireForecast_10 dX8_requireForecast_13 dX8_requireForecast_14 dX8_requireForecast_17 dX8_requireForecast_20 rfl (by decide) (Nat.le_of_ble_eq_true rfl) (fun n hn => Or.inr ⟨c1, rfl, n, hn, rfl⟩)
  refine AF.iload_n dX8_requireForecast_0 rfl ?_
  refine AF.if_lt 10 dX8_requireForecast_1 (by decide) (fun c1 => ?_) (fun c1 => ?_)
  · refine th (fun q => ?_)
    unfold inB at q
    rw [Bool.and_eq_true] at q
    exact absurd (of_decide_eq_true q.1) (Int32.not_le.mpr c1)
  · refine AF.iload_n dX8_requireForecast_4 rfl ?_
    refine AF.bipush (40) dX8_requireForecast_5 (by decide) ?_
    refine AF.icmp_le 21 dX8_requireForecast_7 (by decide) (fun c2 => ?_) (fun c2 => ?_)
    · refine AF.vreturn dX8_requireForecast_21 rfl (Or.inl ⟨?_, rfl, rfl⟩)
      unfold inB
      rw [decide_eq_true (Int32.not_lt.mp c1), decide_eq_true c2]
      rfl
    · refine th (fun q => ?_)
      unfold inB at q
      rw [Bool.and_eq_true] at q
      exact absurd (of_decide_eq_true q.2) c2
end

