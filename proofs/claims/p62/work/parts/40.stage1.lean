/-! The stage: its picture, making, copying, and the checks of its calls. -/
abbrev Sg : Type := List Jt × Nat × Int32 × List (List Sp) × List En × Nat × Nat × Nat
abbrev Sg.J (σ : Sg) : List Jt := σ.1
abbrev Sg.cap (σ : Sg) : Nat := σ.2.1
abbrev Sg.w (σ : Sg) : Int32 := σ.2.2.1
abbrev Sg.Fg (σ : Sg) : List (List Sp) := σ.2.2.2.1
abbrev Sg.E (σ : Sg) : List En := σ.2.2.2.2.1
abbrev Sg.bt (σ : Sg) : Nat := σ.2.2.2.2.2.1
abbrev Sg.pum (σ : Sg) : Nat := σ.2.2.2.2.2.2.1
abbrev Sg.sht (σ : Sg) : Nat := σ.2.2.2.2.2.2.2
def nL (n : Nat) : Int64 := Int64.ofNat n
def en (E : List En) (e : Nat) : En := E.getD e (0, 0)
def SA0 (G : GA) (F : AH) (b n bt pum sht : Nat) (ef es : Nat → Int32) : Prop :=
  F.2 b = some (.inr (4, [.ref (b + 1), .ref (b + 4), .ref (b + 9), .ref (b + 10), .int (nI n), .int (nI bt), .long (nL pum), .long (nL sht)])) ∧ F.2 (b + 9) = some (.inl (gC G 0, 6, .inl ef)) ∧ F.2 (b + 10) = some (.inl (gC G 0, 6, .inl es))
def ER (E : List En) (ef es : Nat → Int32) : Prop := E.length ≤ 6 ∧ ∀ e, e < E.length → ef e = nI (en E e).1 ∧ es e = nI (en E e).2
def SA (G : GA) (F : AH) (b : Nat) (σ : Sg) : Prop := ∃ ef es, SA0 G F b σ.E.length σ.bt σ.pum σ.sht ef es ∧ ER σ.E ef es ∧ JA G F (b + 1) σ.J σ.cap σ.w ∧ FA G F (b + 4) σ.Fg
def SW (G : GA) (b : Nat) (σ : Sg) (v : Option Value) (F0 : AH) : AR → AH → Prop := fun r F' => r = .inl v ∧ SA G F' b σ ∧ Fr b (b + 11) F0 F'
theorem SA.kept {G : GA} {F F' : AH} {b : Nat} {σ : Sg} (h : SA G F b σ) (e : ∀ q, b ≤ q → q < b + 11 → F'.2 q = F.2 q) : SA G F' b σ := by
  obtain ⟨ef, es, ⟨s0, s9, s10⟩, hE, hJ, hF⟩ := h
  exact ⟨ef, es, ⟨(e b (by omega) (by omega)).trans s0, (e (b + 9) (by omega) (by omega)).trans s9, (e (b + 10) (by omega) (by omega)).trans s10⟩, hE, hJ.kept (fun q h1 h2 => e q (by omega) (by omega)), hF.kept (fun q h1 h2 => e q (by omega) (by omega))⟩
theorem SA.fr {G : GA} {F F' : AH} {b lo hi : Nat} {σ : Sg} (h : SA G F b σ) (q : Fr lo hi F F') (d : b + 11 ≤ lo ∨ hi ≤ b) : SA G F' b σ := h.kept (fun x h1 h2 => q.2 x (by omega))
theorem JA.fr {G : GA} {F F' : AH} {a lo hi : Nat} {J : List Jt} {cap : Nat} {w : Int32} (h : JA G F a J cap w) (q : Fr lo hi F F') (d : a + 3 ≤ lo ∨ hi ≤ a) : JA G F' a J cap w := h.kept (fun x h1 h2 => q.2 x (by omega))
theorem FA.fr {G : GA} {F F' : AH} {a lo hi : Nat} {Fg : List (List Sp)} (h : FA G F a Fg) (q : Fr lo hi F F') (d : a + 5 ≤ lo ∨ hi ≤ a) : FA G F' a Fg := h.kept (fun x h1 h2 => q.2 x (by omega))
theorem en_era {E : List En} {k i : Nat} : en (E.eraseIdx k) i = if i < k then en E i else en E (i + 1) := gd_era
theorem en_app {E : List En} {i : Nat} {q : En} : en (E ++ [q]) i = if i = E.length then q else en E i := gd_app
theorem en_map {E : List En} {f : En → En} {i : Nat} (h : i < E.length) : en (E.map f) i = f (en E i) := by
  rw [en, en, List.getD_eq_getElem?_getD, List.getD_eq_getElem?_getD, List.getElem?_map, List.getElem?_eq_getElem h]
  rfl
theorem ER.cg {E : List En} {ef es ef' es' : Nat → Int32} (h : ER E ef es) (h1 : ∀ q, q < 6 → ef' q = ef q ∧ es' q = es q) : ER E ef' es' :=
  ⟨h.1, fun e he => by have := h.1; rw [(h1 e (by omega)).1, (h1 e (by omega)).2]; exact h.2 e he⟩
section
variable {G : GA} {F : AH} {b c : Nat} {σ τ : Sg}
set_option maxRecDepth 100000 in
theorem X7_init_ok (hF : F.2 b = some (.inr (4, [.null, .null, .null, .null, .int 0, .int 0, .long 0, .long 0]))) (ha : gN G ≤ b) (hz : F.1 = b + 1) : AC G mX7_init 2 10 172 [.ref b] F (fun r F' => r = .inl none ∧ SA G F' b ([], 40, 0, [], [], 0, 0, 0) ∧ Mk b (b + 11) F F') := by
  refine AC.of [some (.ref b)] rfl (by decide) (Nat.le_of_ble_eq_true rfl) rfl ?_
  have s0 := hF
  have hmk : ∀ q, (q < b ∨ b + 11 ≤ q) → F.2 q = F.2 q := fun _ _ => rfl
  refine AF.aload_n dX7_init_0 rfl ?_
  refine AF.objInit dX7_init_1 ko_X7_3 (Nat.le_of_ble_eq_true rfl) (by decide) ?_
  refine AF.aload_n dX7_init_4 rfl ?_
  refine AF.new (n := 5) (bc := 9) (bs := 167) dX7_init_5 kn_X7_9 rfl ?_
  intro F e9 h9 o9
  rw [hz] at e9 h9 o9 ⊢
  replace hz : F.1 = b + 2 := e9
  replace s0 := (o9 (b) (by omega)).trans s0
  have h8 := h9
  replace hmk := fun q hq => (o9 q (by omega)).trans (hmk q hq)
  clear e9 h9 o9
  refine AF.dup dX7_init_8 rfl ?_
  refine AF.callIN (mc' := 2) (ms' := 20) (bc := 7) (bs := 147) dX7_init_9 kn_X7_11 (X3_init_ok h8 (by omega) hz) rfl rfl (Nat.le_of_ble_eq_true rfl) (by decide) rfl (fun E F9 q => nomatch q.1) (fun v F q => ?_)
  obtain ⟨q, hJ, hm⟩ := q
  cases q
  clear h8
  replace s0 := (hm.2 (b) (by omega)).trans s0
  replace hmk := fun x hx => (hm.2 x (by omega)).trans (hmk x hx)
  replace hz : F.1 = b + 4 := hm.1
  refine AF.putfieldF dX7_init_12 fp_X7_12 s0 (by omega) (Nat.le_of_ble_eq_true rfl) rfl rfl (Or.inl rfl) ?_
  intro F e9 h9 o9
  replace hJ := hJ.kept (fun q h1 h2 => o9 q (by omega))
  replace s0 := h9
  replace hmk := fun q hq => (o9 q (by omega)).trans (hmk q hq)
  replace hz := e9.trans hz
  clear e9 h9 o9
  refine AF.aload_n dX7_init_15 rfl ?_
  refine AF.new (n := 5) (bc := 6) (bs := 142) dX7_init_16 kn_X7_18 rfl ?_
  intro F e9 h9 o9
  rw [hz] at e9 h9 o9 ⊢
  replace hz : F.1 = b + 5 := e9
  replace s0 := (o9 (b) (by omega)).trans s0
  replace hJ := hJ.kept (fun q h1 h2 => o9 q (by omega))
  have h8 := h9
  replace hmk := fun q hq => (o9 q (by omega)).trans (hmk q hq)
  clear e9 h9 o9
  refine AF.dup dX7_init_19 rfl ?_
  refine AF.callIN (mc' := 4) (ms' := 125) (bc := 2) (bs := 17) dX7_init_20 kn_X7_20 (X2_init_ok h8 (by omega) hz) rfl rfl (Nat.le_of_ble_eq_true rfl) (by decide) rfl (fun E F9 q => nomatch q.1) (fun v F q => ?_)
  obtain ⟨q, hG, hm⟩ := q
  cases q
  clear h8
  replace s0 := (hm.2 (b) (by omega)).trans s0
  replace hJ := hJ.kept (fun x h1 h2 => hm.2 x (by omega))
  replace hmk := fun x hx => (hm.2 x (by omega)).trans (hmk x hx)
  replace hz : F.1 = b + 9 := hm.1
  refine AF.putfieldF dX7_init_23 fp_X7_21 s0 (by omega) (Nat.le_of_ble_eq_true rfl) rfl rfl (Or.inl rfl) ?_
  intro F e9 h9 o9
  replace hJ := hJ.kept (fun q h1 h2 => o9 q (by omega))
  replace hG := hG.kept (fun q h1 h2 => o9 q (by omega))
  replace s0 := h9
  replace hmk := fun q hq => (o9 q (by omega)).trans (hmk q hq)
  replace hz := e9.trans hz
  clear e9 h9 o9
  refine AF.aload_n dX7_init_26 rfl ?_
  refine AF.bipush (nI 6) dX7_init_27 (by decide) ?_
  refine AF.newI (n := 6) (bc := 1) (bs := 11) dX7_init_29 aw_int (by first | rfl | decide) (by decide) ?_
  intro F e9 h9 o9
  rw [hz] at e9 h9 o9 ⊢
  replace hz : F.1 = b + 10 := e9
  replace s0 := (o9 (b) (by omega)).trans s0
  replace hJ := hJ.kept (fun q h1 h2 => o9 q (by omega))
  replace hG := hG.kept (fun q h1 h2 => o9 q (by omega))
  have h9a := h9
  replace hmk := fun q hq => (o9 q (by omega)).trans (hmk q hq)
  clear e9 h9 o9
  refine AF.putfieldF dX7_init_31 fp_X7_25 s0 (by omega) (Nat.le_of_ble_eq_true rfl) rfl rfl (Or.inl rfl) ?_
  intro F e9 h9 o9
  replace hJ := hJ.kept (fun q h1 h2 => o9 q (by omega))
  replace hG := hG.kept (fun q h1 h2 => o9 q (by omega))
  replace h9a := (o9 (b + 9) (by omega)).trans h9a
  replace s0 := h9
  replace hmk := fun q hq => (o9 q (by omega)).trans (hmk q hq)
  replace hz := e9.trans hz
  clear e9 h9 o9
  refine AF.aload_n dX7_init_34 rfl ?_
  refine AF.bipush (nI 6) dX7_init_35 (by decide) ?_
  refine AF.newI (n := 6) (bc := 0) (bs := 5) dX7_init_37 aw_int (by first | rfl | decide) (by decide) ?_
  intro F e9 h9 o9
  rw [hz] at e9 h9 o9 ⊢
  replace hz : F.1 = b + 11 := e9
  replace s0 := (o9 (b) (by omega)).trans s0
  replace hJ := hJ.kept (fun q h1 h2 => o9 q (by omega))
  replace hG := hG.kept (fun q h1 h2 => o9 q (by omega))
  replace h9a := (o9 (b + 9) (by omega)).trans h9a
  have h9b := h9
  replace hmk := fun q hq => (o9 q (by omega)).trans (hmk q hq)
  clear e9 h9 o9
  refine AF.putfieldF dX7_init_39 fp_X7_29 s0 (by omega) (Nat.le_of_ble_eq_true rfl) rfl rfl (Or.inl rfl) ?_
  intro F e9 h9 o9
  replace hJ := hJ.kept (fun q h1 h2 => o9 q (by omega))
  replace hG := hG.kept (fun q h1 h2 => o9 q (by omega))
  replace h9a := (o9 (b + 9) (by omega)).trans h9a
  replace h9b := (o9 (b + 10) (by omega)).trans h9b
  replace s0 := h9
  replace hmk := fun q hq => (o9 q (by omega)).trans (hmk q hq)
  replace hz := e9.trans hz
  clear e9 h9 o9
  refine AF.aload_n dX7_init_42 rfl ?_
  refine AF.iconst (nI 0) dX7_init_43 (by decide) ?_
  refine AF.putfieldF dX7_init_44 fp_X7_32 s0 (by omega) (Nat.le_of_ble_eq_true rfl) rfl rfl (Or.inr fq_4_4) ?_
  intro F e9 h9 o9
  replace hJ := hJ.kept (fun q h1 h2 => o9 q (by omega))
  replace hG := hG.kept (fun q h1 h2 => o9 q (by omega))
  replace h9a := (o9 (b + 9) (by omega)).trans h9a
  replace h9b := (o9 (b + 10) (by omega)).trans h9b
  replace s0 := h9
  replace hmk := fun q hq => (o9 q (by omega)).trans (hmk q hq)
  replace hz := e9.trans hz
  clear e9 h9 o9
  refine AF.aload_n dX7_init_47 rfl ?_
  refine AF.iconst (nI 0) dX7_init_48 (by decide) ?_
  refine AF.putfieldF dX7_init_49 fp_X7_36 s0 (by omega) (Nat.le_of_ble_eq_true rfl) rfl rfl (Or.inr fq_4_5) ?_
  intro F e9 h9 o9
  replace hJ := hJ.kept (fun q h1 h2 => o9 q (by omega))
  replace hG := hG.kept (fun q h1 h2 => o9 q (by omega))
  replace h9a := (o9 (b + 9) (by omega)).trans h9a
  replace h9b := (o9 (b + 10) (by omega)).trans h9b
  replace s0 := h9
  replace hmk := fun q hq => (o9 q (by omega)).trans (hmk q hq)
  replace hz := e9.trans hz
  clear e9 h9 o9
  refine AF.aload_n dX7_init_52 rfl ?_
  refine AF.lconst (0) dX7_init_53 (by decide) ?_
  refine AF.putfieldF dX7_init_54 fp_X7_39 s0 (by omega) (Nat.le_of_ble_eq_true rfl) rfl rfl (Or.inr fq_4_6) ?_
  intro F e9 h9 o9
  replace hJ := hJ.kept (fun q h1 h2 => o9 q (by omega))
  replace hG := hG.kept (fun q h1 h2 => o9 q (by omega))
  replace h9a := (o9 (b + 9) (by omega)).trans h9a
  replace h9b := (o9 (b + 10) (by omega)).trans h9b
  replace s0 := h9
  replace hmk := fun q hq => (o9 q (by omega)).trans (hmk q hq)
  replace hz := e9.trans hz
  clear e9 h9 o9
  refine AF.aload_n dX7_init_57 rfl ?_
  refine AF.lconst (0) dX7_init_58 (by decide) ?_
  refine AF.putfieldF dX7_init_59 fp_X7_43 s0 (by omega) (Nat.le_of_ble_eq_true rfl) rfl rfl (Or.inr fq_4_7) ?_
  intro F e9 h9 o9
  replace hJ := hJ.kept (fun q h1 h2 => o9 q (by omega))
  replace hG := hG.kept (fun q h1 h2 => o9 q (by omega))
  replace h9a := (o9 (b + 9) (by omega)).trans h9a
  replace h9b := (o9 (b + 10) (by omega)).trans h9b
  replace s0 := h9
  replace hmk := fun q hq => (o9 q (by omega)).trans (hmk q hq)
  replace hz := e9.trans hz
  clear e9 h9 o9
  exact AF.vreturn dX7_init_62 rfl ⟨rfl, ⟨_, _, ⟨s0, h9a, h9b⟩, ⟨Nat.zero_le _, fun e he => absurd he (Nat.not_lt_zero _)⟩, hJ, hG⟩, hz, hmk⟩
set_option maxRecDepth 100000 in
theorem X7_copyFrom_ok (hS : SA G F b τ) (hT : SA G F c σ) (ha : gN G ≤ b) (hab : b + 11 ≤ c ∨ c + 11 ≤ b) : AC G mX7_copyFrom 2 0 0 [.ref b, .ref c] F (SW G b σ none F) := by
  obtain ⟨ef0, es0, ⟨s0, s9, s10⟩, -, hJ, hG⟩ := hS
  obtain ⟨ef, es, ⟨t0, t9, t10⟩, hE, kJ, kG⟩ := hT
  refine AC.of [some (.ref b), some (.ref c)] rfl (by decide) (Nat.le_of_ble_eq_true rfl) rfl ?_
  have hfr : Fr b (b + 11) F F := Fr.rf
  obtain ⟨-, -, ⟨j0, -⟩, -⟩ := id hJ
  refine AF.aload_n dX7_copyFrom_0 rfl ?_
  refine AF.getfield dX7_copyFrom_1 fl_X7_12 (by assumption) rfl ?_
  refine AF.aload_n dX7_copyFrom_4 rfl ?_
  refine AF.getfield dX7_copyFrom_5 fl_X7_12 (by assumption) rfl ?_
  refine AF.vw dX7_copyFrom_8 kv_X7_46 (X3_copyFrom_ok hJ kJ (by omega) (by omega)) (by assumption) rfl rfl rfl (Nat.le_of_ble_eq_true rfl) (by decide) rfl (fun E F9 q => nomatch q.1) (fun v F q => ?_)
  obtain ⟨q, hJ, q2⟩ := q
  cases q
  replace s0 := (q2.2 (b) (by omega)).trans s0
  replace s9 := (q2.2 (b + 9) (by omega)).trans s9
  replace s10 := (q2.2 (b + 10) (by omega)).trans s10
  replace hG := hG.fr q2 (by omega)
  replace t0 := (q2.2 (c) (by omega)).trans t0
  replace t9 := (q2.2 (c + 9) (by omega)).trans t9
  replace t10 := (q2.2 (c + 10) (by omega)).trans t10
  replace kJ := kJ.fr q2 (by omega)
  replace kG := kG.fr q2 (by omega)
  replace hfr := hfr.trans q2 (by omega) (by omega)
  obtain ⟨-, -, -, -, ⟨g0, -⟩, -⟩ := id hG
  refine AF.aload_n dX7_copyFrom_11 rfl ?_
  refine AF.getfield dX7_copyFrom_12 fl_X7_21 (by assumption) rfl ?_
  refine AF.aload_n dX7_copyFrom_15 rfl ?_
  refine AF.getfield dX7_copyFrom_16 fl_X7_21 (by assumption) rfl ?_
  refine AF.vw dX7_copyFrom_19 kv_X7_50 (X2_copyFrom_ok hG kG (by omega) (by omega)) (by assumption) rfl rfl rfl (Nat.le_of_ble_eq_true rfl) (by decide) rfl (fun E F9 q => nomatch q.1) (fun v F q => ?_)
  obtain ⟨q, hG, q2⟩ := q
  cases q
  replace s0 := (q2.2 (b) (by omega)).trans s0
  replace s9 := (q2.2 (b + 9) (by omega)).trans s9
  replace s10 := (q2.2 (b + 10) (by omega)).trans s10
  replace hJ := hJ.fr q2 (by omega)
  replace t0 := (q2.2 (c) (by omega)).trans t0
  replace t9 := (q2.2 (c + 9) (by omega)).trans t9
  replace t10 := (q2.2 (c + 10) (by omega)).trans t10
  replace kJ := kJ.fr q2 (by omega)
  replace kG := kG.fr q2 (by omega)
  replace hfr := hfr.trans q2 (by omega) (by omega)
  refine AF.aload_n dX7_copyFrom_22 rfl ?_
  refine AF.getfield dX7_copyFrom_23 fl_X7_25 (by assumption) rfl ?_
  refine AF.iconst (nI 0) dX7_copyFrom_26 (by decide) ?_
  refine AF.aload_n dX7_copyFrom_27 rfl ?_
  refine AF.getfield dX7_copyFrom_28 fl_X7_25 (by assumption) rfl ?_
  refine AF.iconst (nI 0) dX7_copyFrom_31 (by decide) ?_
  refine AF.bipush (nI 6) dX7_copyFrom_32 (by decide) ?_
  refine AF.copyi dX7_copyFrom_34 ka_X7_53 t9 s9 (by omega) rfl rfl rfl (by omega) (by omega) (by decide) (by decide) (Nat.le_of_ble_eq_true rfl) (by decide) ?_
  intro F e9 h9 o9
  replace s0 := (o9 (b) (by omega)).trans s0
  replace s10 := (o9 (b + 10) (by omega)).trans s10
  replace hJ := hJ.kept (fun q h1 h2 => o9 q (by omega))
  replace hG := hG.kept (fun q h1 h2 => o9 q (by omega))
  replace t0 := (o9 (c) (by omega)).trans t0
  replace t9 := (o9 (c + 9) (by omega)).trans t9
  replace t10 := (o9 (c + 10) (by omega)).trans t10
  replace kJ := kJ.kept (fun q h1 h2 => o9 q (by omega))
  replace kG := kG.kept (fun q h1 h2 => o9 q (by omega))
  replace s9 := h9
  replace hfr := hfr.step e9 (by omega) (by omega) o9
  clear e9 h9 o9
  refine AF.aload_n dX7_copyFrom_37 rfl ?_
  refine AF.getfield dX7_copyFrom_38 fl_X7_29 (by assumption) rfl ?_
  refine AF.iconst (nI 0) dX7_copyFrom_41 (by decide) ?_
  refine AF.aload_n dX7_copyFrom_42 rfl ?_
  refine AF.getfield dX7_copyFrom_43 fl_X7_29 (by assumption) rfl ?_
  refine AF.iconst (nI 0) dX7_copyFrom_46 (by decide) ?_
  refine AF.bipush (nI 6) dX7_copyFrom_47 (by decide) ?_
  refine AF.copyi dX7_copyFrom_49 ka_X7_53 t10 s10 (by omega) rfl rfl rfl (by omega) (by omega) (by decide) (by decide) (Nat.le_of_ble_eq_true rfl) (by decide) ?_
  intro F e9 h9 o9
  replace s0 := (o9 (b) (by omega)).trans s0
  replace s9 := (o9 (b + 9) (by omega)).trans s9
  replace hJ := hJ.kept (fun q h1 h2 => o9 q (by omega))
  replace hG := hG.kept (fun q h1 h2 => o9 q (by omega))
  replace t0 := (o9 (c) (by omega)).trans t0
  replace t9 := (o9 (c + 9) (by omega)).trans t9
  replace t10 := (o9 (c + 10) (by omega)).trans t10
  replace kJ := kJ.kept (fun q h1 h2 => o9 q (by omega))
  replace kG := kG.kept (fun q h1 h2 => o9 q (by omega))
  replace s10 := h9
  replace hfr := hfr.step e9 (by omega) (by omega) o9
  clear e9 h9 o9
  refine AF.aload_n dX7_copyFrom_52 rfl ?_
  refine AF.aload_n dX7_copyFrom_53 rfl ?_
  refine AF.getfield dX7_copyFrom_54 fl_X7_32 (by assumption) rfl ?_
  refine AF.putfieldF dX7_copyFrom_57 fp_X7_32 s0 (by omega) (Nat.le_of_ble_eq_true rfl) rfl rfl (Or.inr fq_4_4) ?_
  intro F e9 h9 o9
  replace s9 := (o9 (b + 9) (by omega)).trans s9
  replace s10 := (o9 (b + 10) (by omega)).trans s10
  replace hJ := hJ.kept (fun q h1 h2 => o9 q (by omega))
  replace hG := hG.kept (fun q h1 h2 => o9 q (by omega))
  replace t0 := (o9 (c) (by omega)).trans t0
  replace t9 := (o9 (c + 9) (by omega)).trans t9
  replace t10 := (o9 (c + 10) (by omega)).trans t10
  replace kJ := kJ.kept (fun q h1 h2 => o9 q (by omega))
  replace kG := kG.kept (fun q h1 h2 => o9 q (by omega))
  replace s0 := h9
  replace hfr := hfr.step e9 (by omega) (by omega) o9
  clear e9 h9 o9
  refine AF.aload_n dX7_copyFrom_60 rfl ?_
  refine AF.aload_n dX7_copyFrom_61 rfl ?_
  refine AF.getfield dX7_copyFrom_62 fl_X7_36 (by assumption) rfl ?_
  refine AF.putfieldF dX7_copyFrom_65 fp_X7_36 s0 (by omega) (Nat.le_of_ble_eq_true rfl) rfl rfl (Or.inr fq_4_5) ?_
  intro F e9 h9 o9
  replace s9 := (o9 (b + 9) (by omega)).trans s9
  replace s10 := (o9 (b + 10) (by omega)).trans s10
  replace hJ := hJ.kept (fun q h1 h2 => o9 q (by omega))
  replace hG := hG.kept (fun q h1 h2 => o9 q (by omega))
  replace t0 := (o9 (c) (by omega)).trans t0
  replace t9 := (o9 (c + 9) (by omega)).trans t9
  replace t10 := (o9 (c + 10) (by omega)).trans t10
  replace kJ := kJ.kept (fun q h1 h2 => o9 q (by omega))
  replace kG := kG.kept (fun q h1 h2 => o9 q (by omega))
  replace s0 := h9
  replace hfr := hfr.step e9 (by omega) (by omega) o9
  clear e9 h9 o9
  refine AF.aload_n dX7_copyFrom_68 rfl ?_
  refine AF.aload_n dX7_copyFrom_69 rfl ?_
  refine AF.getfield dX7_copyFrom_70 fl_X7_39 (by assumption) rfl ?_
  refine AF.putfieldF dX7_copyFrom_73 fp_X7_39 s0 (by omega) (Nat.le_of_ble_eq_true rfl) rfl rfl (Or.inr fq_4_6) ?_
  intro F e9 h9 o9
  replace s9 := (o9 (b + 9) (by omega)).trans s9
  replace s10 := (o9 (b + 10) (by omega)).trans s10
  replace hJ := hJ.kept (fun q h1 h2 => o9 q (by omega))
  replace hG := hG.kept (fun q h1 h2 => o9 q (by omega))
  replace t0 := (o9 (c) (by omega)).trans t0
  replace t9 := (o9 (c + 9) (by omega)).trans t9
  replace t10 := (o9 (c + 10) (by omega)).trans t10
  replace kJ := kJ.kept (fun q h1 h2 => o9 q (by omega))
  replace kG := kG.kept (fun q h1 h2 => o9 q (by omega))
  replace s0 := h9
  replace hfr := hfr.step e9 (by omega) (by omega) o9
  clear e9 h9 o9
  refine AF.aload_n dX7_copyFrom_76 rfl ?_
  refine AF.aload_n dX7_copyFrom_77 rfl ?_
  refine AF.getfield dX7_copyFrom_78 fl_X7_43 (by assumption) rfl ?_
  refine AF.putfieldF dX7_copyFrom_81 fp_X7_43 s0 (by omega) (Nat.le_of_ble_eq_true rfl) rfl rfl (Or.inr fq_4_7) ?_
  intro F e9 h9 o9
  replace s9 := (o9 (b + 9) (by omega)).trans s9
  replace s10 := (o9 (b + 10) (by omega)).trans s10
  replace hJ := hJ.kept (fun q h1 h2 => o9 q (by omega))
  replace hG := hG.kept (fun q h1 h2 => o9 q (by omega))
  replace t0 := (o9 (c) (by omega)).trans t0
  replace t9 := (o9 (c + 9) (by omega)).trans t9
  replace t10 := (o9 (c + 10) (by omega)).trans t10
  replace kJ := kJ.kept (fun q h1 h2 => o9 q (by omega))
  replace kG := kG.kept (fun q h1 h2 => o9 q (by omega))
  replace s0 := h9
  replace hfr := hfr.step e9 (by omega) (by omega) o9
  clear e9 h9 o9
  exact AF.vreturn dX7_copyFrom_84 rfl ⟨rfl, ⟨_, _, ⟨s0, s9, s10⟩, hE.cg (fun q hq => by rw [pk_cpy_in (by omega) (by omega), pk_cpy_in (by omega) (by omega), show 0 + (q - 0) = q by omega]; exact ⟨rfl, rfl⟩), hJ, hG⟩, hfr⟩
set_option maxRecDepth 100000 in
theorem X7_dropJet_ok (hS : SA G F b σ) (ha : gN G ≤ b) (hI : FI σ.Fg σ.J.length) (x : Nat) (hx : x < σ.J.length) : AC G mX7_dropJet 3 0 0 [.ref b, .int (nI x)] F (SW G b (σ.J.eraseIdx x, σ.cap, σ.w, σ.Fg.map (fgt x), σ.E, σ.bt, σ.pum, σ.sht) (some (.int (nI (sumN (fun i => (fg σ.Fg i).length - (fgt x (fg σ.Fg i)).length) σ.Fg.length)))) F) := by
  obtain ⟨ef, es, ⟨s0, s9, s10⟩, hE, hJ, hG⟩ := hS
  refine AC.of [some (.ref b), some (.int (nI x))] rfl (by decide) (Nat.le_of_ble_eq_true rfl) rfl ?_
  have hfr : Fr b (b + 11) F F := Fr.rf
  obtain ⟨-, -, ⟨j0, -⟩, hn, -⟩ := id hJ
  obtain ⟨-, -, -, -, ⟨g0, -⟩, -⟩ := id hG
  refine AF.aload_n dX7_dropJet_0 rfl ?_
  refine AF.getfield dX7_dropJet_1 fl_X7_12 (by assumption) rfl ?_
  refine AF.iload_n dX7_dropJet_4 rfl ?_
  refine AF.vw dX7_dropJet_5 kv_X7_59 (X3_drop_ok hJ (by omega) x hx) (by assumption) rfl rfl rfl (Nat.le_of_ble_eq_true rfl) (by decide) rfl (fun E F9 q => nomatch q.1) (fun v F q => ?_)
  obtain ⟨q, hJ, q2⟩ := q
  cases q
  replace s0 := (q2.2 (b) (by omega)).trans s0
  replace s9 := (q2.2 (b + 9) (by omega)).trans s9
  replace s10 := (q2.2 (b + 10) (by omega)).trans s10
  replace hG := hG.fr q2 (by omega)
  replace hfr := hfr.trans q2 (by omega) (by omega)
  replace g0 := (q2.2 (b + 4) (by omega)).trans g0
  refine AF.aload_n dX7_dropJet_8 rfl ?_
  refine AF.getfield dX7_dropJet_9 fl_X7_21 (by assumption) rfl ?_
  refine AF.iload_n dX7_dropJet_12 rfl ?_
  refine AF.vw dX7_dropJet_13 kv_X7_63 (X2_forgetJet_ok hG (by omega) hI hn x (by omega)) (by assumption) rfl rfl rfl (Nat.le_of_ble_eq_true rfl) (by decide) rfl (fun E F9 q => nomatch q.1) (fun v F q => ?_)
  obtain ⟨q, hG, q2⟩ := q
  cases q
  replace s0 := (q2.2 (b) (by omega)).trans s0
  replace s9 := (q2.2 (b + 9) (by omega)).trans s9
  replace s10 := (q2.2 (b + 10) (by omega)).trans s10
  replace hJ := hJ.fr q2 (by omega)
  replace hfr := hfr.trans q2 (by omega) (by omega)
  exact AF.ireturn dX7_dropJet_16 rfl ⟨rfl, ⟨_, _, ⟨s0, s9, s10⟩, hE, hJ, hG⟩, hfr⟩
/-- why a figure may not be removed, a step not be added, a figure not be played, beats not pass -/
def pDrF (σ : Sg) (x : Int32) : Nat := if hasB σ.Fg.length x = false then 1 else if (fnd (fun e => decide (nI (en σ.E e).1 = x)) σ.E.length).isSome = true then 4 else 0
def pStp (σ : Sg) (x y z u : Int32) : Nat := if hasB σ.Fg.length x = false ∨ hasB σ.J.length z = false then 1 else if (y < 0 ∨ 20 < y) ∨ (u < 0 ∨ 10 < u) then 2 else if (fg σ.Fg x.toNatClampNeg).length < 8 then 0 else 4
def pPly (σ : Sg) (x y : Int32) : Nat := if hasB σ.Fg.length x = false then 1 else if y < 1 ∨ 30 < y then 2 else if σ.E.length < 6 then 0 else 4
def pPas (x : Int32) : Nat := if x < 1 ∨ 40 < x then 2 else 0
set_option maxRecDepth 100000 in
theorem X7_problemOfPassing_ok (x : Int32) : AC G mX7_problemOfPassing 0 0 0 [.ref b, .int x] F (AV (some (.ref (gk G (pPas x)))) F) := by
  refine AC.of [some (.ref b), some (.int x)] rfl (by decide) (Nat.le_of_ble_eq_true rfl) rfl (AF.ok fun hG => ?_)
  unfold pPas
  refine AF.iload_n dX7_problemOfPassing_0 rfl ?_
  refine AF.iconst (1) dX7_problemOfPassing_1 (by decide) ?_
  refine AF.icmp_lt 11 dX7_problemOfPassing_2 (by decide) (fun c1 => ?_) (fun c1 => ?_)
  · refine AF.getstatic dX7_problemOfPassing_11 gs_X7_86 (pz hG 2 (by decide)) ?_
    refine AF.goto 20 dX7_problemOfPassing_14 (by decide) ?_
    exact AF.areturn dX7_problemOfPassing_20 rfl (Or.inl ⟨_, rfl⟩) (Or.inr ⟨_, rfl⟩) ⟨by rw [if_pos (Or.inl c1)], rfl⟩
  · refine AF.iload_n dX7_problemOfPassing_5 rfl ?_
    refine AF.bipush (40) dX7_problemOfPassing_6 (by decide) ?_
    refine AF.icmp_le 17 dX7_problemOfPassing_8 (by decide) (fun c2 => ?_) (fun c2 => ?_)
    · refine AF.getstatic dX7_problemOfPassing_17 gs_X7_80 (pz hG 0 (by decide)) ?_
      exact AF.areturn dX7_problemOfPassing_20 rfl (Or.inl ⟨_, rfl⟩) (Or.inr ⟨_, rfl⟩) ⟨by rw [if_neg (by rintro (q | q); exact c1 q; exact absurd q (Int32.not_lt.mpr c2))], rfl⟩
    · refine AF.getstatic dX7_problemOfPassing_11 gs_X7_86 (pz hG 2 (by decide)) ?_
      refine AF.goto 20 dX7_problemOfPassing_14 (by decide) ?_
      exact AF.areturn dX7_problemOfPassing_20 rfl (Or.inl ⟨_, rfl⟩) (Or.inr ⟨_, rfl⟩) ⟨by rw [if_pos (Or.inr (Int32.not_le.mp c2))], rfl⟩
set_option maxRecDepth 100000 in
theorem X7_problemOfPlaying_ok (hS : SA G F b σ) (x y : Int32) : AC G mX7_problemOfPlaying 1 0 0 [.ref b, .int x, .int y] F (AV (some (.ref (gk G (pPly σ x y)))) F) := by
  obtain ⟨ef, es, ⟨s0, s9, s10⟩, hE, hJ, hF⟩ := hS
  have hT := X2_has_ok hF x
  have h6 := hE.1
  obtain ⟨-, -, -, -, ⟨g0, -⟩, -⟩ := id hF
  refine AC.of [some (.ref b), some (.int x), some (.int y)] rfl (by decide) (Nat.le_of_ble_eq_true rfl) rfl (AF.ok fun hG => ?_)
  unfold pPly
  refine AF.aload_n dX7_problemOfPlaying_0 rfl ?_
  refine AF.getfield dX7_problemOfPlaying_1 fl_X7_21 (by assumption) rfl ?_
  refine AF.iload_n dX7_problemOfPlaying_4 rfl ?_
  refine AF.v1 dX7_problemOfPlaying_5 kv_X7_67 (hT) (by assumption) rfl rfl rfl (Nat.le_of_ble_eq_true rfl) (by decide) rfl ?_
  refine AF.if_ne 15 dX7_problemOfPlaying_8 (by decide) (fun c0 => ?_) (fun c0 => ?_)
  · rw [if_neg (by rw [bI_n c0]; decide)]
    refine AF.iload_n dX7_problemOfPlaying_15 rfl ?_
    refine AF.iconst (1) dX7_problemOfPlaying_16 (by decide) ?_
    refine AF.icmp_lt 26 dX7_problemOfPlaying_17 (by decide) (fun c1 => ?_) (fun c1 => ?_)
    · refine AF.getstatic dX7_problemOfPlaying_26 gs_X7_86 (pz hG 2 (by decide)) ?_
      exact AF.areturn dX7_problemOfPlaying_29 rfl (Or.inl ⟨_, rfl⟩) (Or.inr ⟨_, rfl⟩) ⟨by rw [if_pos (Or.inl c1)], rfl⟩
    · refine AF.iload_n dX7_problemOfPlaying_20 rfl ?_
      refine AF.bipush (30) dX7_problemOfPlaying_21 (by decide) ?_
      refine AF.icmp_le 30 dX7_problemOfPlaying_23 (by decide) (fun c2 => ?_) (fun c2 => ?_)
      · rw [if_neg (by rintro (q | q); exact c1 q; exact absurd q (Int32.not_lt.mpr c2))]
        refine AF.aload_n dX7_problemOfPlaying_30 rfl ?_
        refine AF.getfield dX7_problemOfPlaying_31 fl_X7_32 (by assumption) rfl ?_
        refine AF.bipush (nI 6) dX7_problemOfPlaying_34 (by decide) ?_
        refine AF.icmp_ge 45 dX7_problemOfPlaying_36 (by decide) (fun c3 => ?_) (fun c3 => ?_)
        · rw [nI_leI (by omega) (by omega)] at c3
          refine AF.getstatic dX7_problemOfPlaying_45 gs_X7_77 (pz hG 4 (by decide)) ?_
          exact AF.areturn dX7_problemOfPlaying_48 rfl (Or.inl ⟨_, rfl⟩) (Or.inr ⟨_, rfl⟩) ⟨by rw [if_neg (by omega)], rfl⟩
        · rw [nI_leI (by omega) (by omega)] at c3
          refine AF.getstatic dX7_problemOfPlaying_39 gs_X7_80 (pz hG 0 (by decide)) ?_
          refine AF.goto 48 dX7_problemOfPlaying_42 (by decide) ?_
          exact AF.areturn dX7_problemOfPlaying_48 rfl (Or.inl ⟨_, rfl⟩) (Or.inr ⟨_, rfl⟩) ⟨by rw [if_pos (by omega)], rfl⟩
      · refine AF.getstatic dX7_problemOfPlaying_26 gs_X7_86 (pz hG 2 (by decide)) ?_
        exact AF.areturn dX7_problemOfPlaying_29 rfl (Or.inl ⟨_, rfl⟩) (Or.inr ⟨_, rfl⟩) ⟨by rw [if_pos (Or.inr (Int32.not_le.mp c2))], rfl⟩
  · refine AF.getstatic dX7_problemOfPlaying_11 gs_X7_71 (pz hG 1 (by decide)) ?_
    exact AF.areturn dX7_problemOfPlaying_14 rfl (Or.inl ⟨_, rfl⟩) (Or.inr ⟨_, rfl⟩) ⟨by rw [if_pos (bI_z c0)], rfl⟩
set_option maxRecDepth 100000 in
theorem X7_problemOfStep_ok (hS : SA G F b σ) (x y z u : Int32) : AC G mX7_problemOfStep 1 0 0 [.ref b, .int x, .int y, .int z, .int u] F (AV (some (.ref (gk G (pStp σ x y z u)))) F) := by
  obtain ⟨ef, es, ⟨s0, s9, s10⟩, hE, hJ, hF⟩ := hS
  have hT := X2_has_ok hF x
  have hU := X3_has_ok hJ z
  obtain ⟨-, -, ⟨j0, -⟩, -⟩ := id hJ
  obtain ⟨sc, dl, jt, op, ⟨g0, g1, -⟩, hr⟩ := id hF
  have h5 := hr.1
  refine AC.of [some (.ref b), some (.int x), some (.int y), some (.int z), some (.int u)] rfl (by decide) (Nat.le_of_ble_eq_true rfl) rfl (AF.ok fun hG => ?_)
  unfold pStp
  refine AF.aload_n dX7_problemOfStep_0 rfl ?_
  refine AF.getfield dX7_problemOfStep_1 fl_X7_21 (by assumption) rfl ?_
  refine AF.iload_n dX7_problemOfStep_4 rfl ?_
  refine AF.v1 dX7_problemOfStep_5 kv_X7_67 (hT) (by assumption) rfl rfl rfl (Nat.le_of_ble_eq_true rfl) (by decide) rfl ?_
  refine AF.if_eq 22 dX7_problemOfStep_8 (by decide) (fun c0 => ?_) (fun c0 => ?_)
  · refine AF.getstatic dX7_problemOfStep_22 gs_X7_71 (pz hG 1 (by decide)) ?_
    exact AF.areturn dX7_problemOfStep_25 rfl (Or.inl ⟨_, rfl⟩) (Or.inr ⟨_, rfl⟩) ⟨by rw [if_pos (Or.inl (bI_z c0))], rfl⟩
  · refine AF.aload_n dX7_problemOfStep_11 rfl ?_
    refine AF.getfield dX7_problemOfStep_12 fl_X7_12 (by assumption) rfl ?_
    refine AF.iload_n dX7_problemOfStep_15 rfl ?_
    refine AF.v1 dX7_problemOfStep_16 kv_X7_85 (hU) (by assumption) rfl rfl rfl (Nat.le_of_ble_eq_true rfl) (by decide) rfl ?_
    refine AF.if_ne 26 dX7_problemOfStep_19 (by decide) (fun c9 => ?_) (fun c9 => ?_)
    · rw [if_neg (by rintro (q | q); rw [bI_n c0] at q; cases q; have q9 := bI_n c9; unfold hasB at q; rw [q9] at q; cases q)]
      refine AF.iload_n dX7_problemOfStep_26 rfl ?_
      refine AF.if_lt 48 dX7_problemOfStep_27 (by decide) (fun c1 => ?_) (fun c1 => ?_)
      · refine AF.getstatic dX7_problemOfStep_48 gs_X7_86 (pz hG 2 (by decide)) ?_
        exact AF.areturn dX7_problemOfStep_51 rfl (Or.inl ⟨_, rfl⟩) (Or.inr ⟨_, rfl⟩) ⟨by rw [if_pos (Or.inl (Or.inl c1))], rfl⟩
      · refine AF.iload_n dX7_problemOfStep_30 rfl ?_
        refine AF.bipush (20) dX7_problemOfStep_31 (by decide) ?_
        refine AF.icmp_gt 48 dX7_problemOfStep_33 (by decide) (fun c2 => ?_) (fun c2 => ?_)
        · refine AF.getstatic dX7_problemOfStep_48 gs_X7_86 (pz hG 2 (by decide)) ?_
          exact AF.areturn dX7_problemOfStep_51 rfl (Or.inl ⟨_, rfl⟩) (Or.inr ⟨_, rfl⟩) ⟨by rw [if_pos (Or.inl (Or.inr c2))], rfl⟩
        · refine AF.iload dX7_problemOfStep_36 rfl ?_
          refine AF.if_lt 48 dX7_problemOfStep_38 (by decide) (fun c3 => ?_) (fun c3 => ?_)
          · refine AF.getstatic dX7_problemOfStep_48 gs_X7_86 (pz hG 2 (by decide)) ?_
            exact AF.areturn dX7_problemOfStep_51 rfl (Or.inl ⟨_, rfl⟩) (Or.inr ⟨_, rfl⟩) ⟨by rw [if_pos (Or.inr (Or.inl c3))], rfl⟩
          · refine AF.iload dX7_problemOfStep_41 rfl ?_
            refine AF.bipush (10) dX7_problemOfStep_43 (by decide) ?_
            refine AF.icmp_le 52 dX7_problemOfStep_45 (by decide) (fun c4 => ?_) (fun c4 => ?_)
            · rw [if_neg (by rintro ((q | q) | (q | q)); exact c1 q; exact c2 q; exact c3 q; exact absurd q (Int32.not_lt.mpr c4))]
              obtain ⟨i, hi, rfl⟩ := hasB_nI (by omega) (bI_n c0)
              have h8 := (hr.2 i hi).1
              refine AF.aload_n dX7_problemOfStep_52 rfl ?_
              refine AF.getfield dX7_problemOfStep_53 fl_X7_21 (by assumption) rfl ?_
              refine AF.getfield dX7_problemOfStep_56 fl_X7_89 (by assumption) rfl ?_
              refine AF.iload_n dX7_problemOfStep_59 rfl ?_
              refine AF.iaload (_) dX7_problemOfStep_60 (by assumption) rfl (by omega) (by decide) ?_
              rw [(hr.2 i hi).2.1, nI_clamp (by omega)]
              refine AF.bipush (nI 8) dX7_problemOfStep_61 (by decide) ?_
              refine AF.icmp_ge 72 dX7_problemOfStep_63 (by decide) (fun c5 => ?_) (fun c5 => ?_)
              · rw [nI_leI (by omega) (by omega)] at c5
                refine AF.getstatic dX7_problemOfStep_72 gs_X7_77 (pz hG 4 (by decide)) ?_
                exact AF.areturn dX7_problemOfStep_75 rfl (Or.inl ⟨_, rfl⟩) (Or.inr ⟨_, rfl⟩) ⟨by rw [if_neg (by omega)], rfl⟩
              · rw [nI_leI (by omega) (by omega)] at c5
                refine AF.getstatic dX7_problemOfStep_66 gs_X7_80 (pz hG 0 (by decide)) ?_
                refine AF.goto 75 dX7_problemOfStep_69 (by decide) ?_
                exact AF.areturn dX7_problemOfStep_75 rfl (Or.inl ⟨_, rfl⟩) (Or.inr ⟨_, rfl⟩) ⟨by rw [if_pos (by omega)], rfl⟩
            · refine AF.getstatic dX7_problemOfStep_48 gs_X7_86 (pz hG 2 (by decide)) ?_
              exact AF.areturn dX7_problemOfStep_51 rfl (Or.inl ⟨_, rfl⟩) (Or.inr ⟨_, rfl⟩) ⟨by rw [if_pos (Or.inr (Or.inr (Int32.not_le.mp c4)))], rfl⟩
    · refine AF.getstatic dX7_problemOfStep_22 gs_X7_71 (pz hG 1 (by decide)) ?_
      exact AF.areturn dX7_problemOfStep_25 rfl (Or.inl ⟨_, rfl⟩) (Or.inr ⟨_, rfl⟩) ⟨by rw [if_pos (Or.inr (by rw [hasB]; exact bI_z c9))], rfl⟩
set_option maxRecDepth 100000 in
theorem X7_problemOfDroppingFigure_ok (hS : SA G F b σ) (x : Int32) : AC G mX7_problemOfDroppingFigure 1 0 0 [.ref b, .int x] F (AV (some (.ref (gk G (pDrF σ x)))) F) := by
  obtain ⟨ef, es, ⟨s0, s9, s10⟩, hE, hJ, hF⟩ := hS
  have hT := X2_has_ok hF x
  have h6 := hE.1
  obtain ⟨-, -, -, -, ⟨g0, -⟩, -⟩ := id hF
  refine AC.of [some (.ref b), some (.int x), none] rfl (by decide) (Nat.le_of_ble_eq_true rfl) rfl (AF.ok fun hG => ?_)
  unfold pDrF
  refine AF.aload_n dX7_problemOfDroppingFigure_0 rfl ?_
  refine AF.getfield dX7_problemOfDroppingFigure_1 fl_X7_21 (by assumption) rfl ?_
  refine AF.iload_n dX7_problemOfDroppingFigure_4 rfl ?_
  refine AF.v1 dX7_problemOfDroppingFigure_5 kv_X7_67 (hT) (by assumption) rfl rfl rfl (Nat.le_of_ble_eq_true rfl) (by decide) rfl ?_
  refine AF.if_ne 15 dX7_problemOfDroppingFigure_8 (by decide) (fun c0 => ?_) (fun c0 => ?_)
  · rw [if_neg (by rw [bI_n c0]; decide)]
    have loop : ∀ k j, j + k = σ.E.length → (∀ m, m < j → decide (nI (en σ.E m).1 = x) = false) → AF G mX7_problemOfDroppingFigure 1 0 0 (AV (some (.ref (gk G (if (fnd (fun e => decide (nI (en σ.E e).1 = x)) σ.E.length).isSome = true then 4 else 0)))) F) F 17 [some (.ref b), some (.int x), some (.int (nI j))] [] := by
      intro k
      induction k with
      | zero =>
        intro j hj hb9
        refine AF.iload_n dX7_problemOfDroppingFigure_17 rfl ?_
        refine AF.aload_n dX7_problemOfDroppingFigure_18 rfl ?_
        refine AF.getfield dX7_problemOfDroppingFigure_19 fl_X7_32 (by assumption) rfl ?_
        refine AF.icmp_ge 45 dX7_problemOfDroppingFigure_22 (by decide) (fun hb => ?_) (fun hb => ?_)
        · refine AF.getstatic dX7_problemOfDroppingFigure_45 gs_X7_80 (pz hG 0 (by decide)) ?_
          exact AF.areturn dX7_problemOfDroppingFigure_48 rfl (Or.inl ⟨_, rfl⟩) (Or.inr ⟨_, rfl⟩) ⟨by rw [fnd_none (fun m hm => hb9 m (by omega))]; rfl, rfl⟩
        · exact absurd (by rw [nI_leI (by omega) (by omega)]; omega) hb
      | succ k ih =>
        intro j hj hb9
        refine AF.iload_n dX7_problemOfDroppingFigure_17 rfl ?_
        refine AF.aload_n dX7_problemOfDroppingFigure_18 rfl ?_
        refine AF.getfield dX7_problemOfDroppingFigure_19 fl_X7_32 (by assumption) rfl ?_
        refine AF.icmp_ge 45 dX7_problemOfDroppingFigure_22 (by decide) (fun hb => ?_) (fun hb => ?_)
        · rw [nI_leI (by omega) (by omega)] at hb
          omega
        · refine AF.aload_n dX7_problemOfDroppingFigure_25 rfl ?_
          refine AF.getfield dX7_problemOfDroppingFigure_26 fl_X7_25 (by assumption) rfl ?_
          refine AF.iload_n dX7_problemOfDroppingFigure_29 rfl ?_
          refine AF.iaload (_) dX7_problemOfDroppingFigure_30 (by assumption) rfl (by omega) (by decide) ?_
          rw [(hE.2 j (by omega)).1]
          refine AF.iload_n dX7_problemOfDroppingFigure_31 rfl ?_
          refine AF.icmp_ne 39 dX7_problemOfDroppingFigure_32 (by decide) (fun hc => ?_) (fun hc => ?_)
          · refine AF.inc1 dX7_problemOfDroppingFigure_39 rfl (by decide) ?_
            refine AF.goto 17 dX7_problemOfDroppingFigure_42 (by decide) ?_
            refine ih (j + 1) (by omega) (fun m hm => ?_)
            by_cases e : m = j
            · rw [e]; exact decide_eq_false hc
            · exact hb9 m (by omega)
          · refine AF.getstatic dX7_problemOfDroppingFigure_35 gs_X7_77 (pz hG 4 (by decide)) ?_
            exact AF.areturn dX7_problemOfDroppingFigure_38 rfl (Or.inl ⟨_, rfl⟩) (Or.inr ⟨_, rfl⟩) ⟨by rw [fnd_some (decide_eq_true (hc)) (by omega) hb9]; rfl, rfl⟩
    refine AF.iconst (nI 0) dX7_problemOfDroppingFigure_15 (by decide) ?_
    refine AF.istore_n dX7_problemOfDroppingFigure_16 (by decide) ?_
    exact loop σ.E.length 0 (by omega) (fun i hi => by omega)
  · refine AF.getstatic dX7_problemOfDroppingFigure_11 gs_X7_71 (pz hG 1 (by decide)) ?_
    exact AF.areturn dX7_problemOfDroppingFigure_14 rfl (Or.inl ⟨_, rfl⟩) (Or.inr ⟨_, rfl⟩) ⟨by rw [if_pos (bI_z c0)], rfl⟩
end

