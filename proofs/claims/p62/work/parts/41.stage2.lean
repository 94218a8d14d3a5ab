/-! The stage: its entries and its beats. -/
/-- the stage within its bounds -/
def SI (σ : Sg) (B : Nat) : Prop := JI σ.J ∧ σ.cap ≤ 100 ∧ FI σ.Fg σ.J.length ∧ (∀ e, e < σ.E.length → (en σ.E e).1 < σ.Fg.length ∧ (en σ.E e).2 ≤ B + 30) ∧ σ.bt ≤ B ∧ σ.pum ≤ 100 * B ∧ σ.sht ≤ 100 * B ∧ B ≤ 2 ^ 21
def dcF (x : Nat) (p : En) : En := (if x < p.1 then p.1 - 1 else p.1, p.2)
def SF (G : GA) (F : AH) (b n bt pum sht : Nat) (ef es : Nat → Int32) (F0 : AH) : AR → AH → Prop := fun r F' => r = .inl none ∧ SA0 G F' b n bt pum sht ef es ∧ Fr (b + 9) (b + 11) F F'
section
variable {G : GA} {F : AH} {b : Nat} {σ : Sg}
set_option maxRecDepth 100000 in
theorem X7_moveEntry_ok {n bt pum sht : Nat} {ef es : Nat → Int32} (hS : SA0 G F b n bt pum sht ef es) (ha : gN G ≤ b) (s t : Nat) (hs : s < 6) (ht : t < 6) : AC G mX7_moveEntry 0 0 0 [.ref b, .int (nI s), .int (nI t)] F (SF G F b n bt pum sht (upd ef t (ef s)) (upd es t (es s)) F) := by
  obtain ⟨s0, s9, s10⟩ := hS
  refine AC.of [some (.ref b), some (.int (nI s)), some (.int (nI t))] rfl (by decide) (Nat.le_of_ble_eq_true rfl) rfl ?_
  have hfr : Fr (b + 9) (b + 11) F F := Fr.rf
  refine AF.aload_n dX7_moveEntry_0 rfl ?_
  refine AF.getfield dX7_moveEntry_1 fl_X7_25 (by assumption) rfl ?_
  refine AF.iload_n dX7_moveEntry_4 rfl ?_
  refine AF.aload_n dX7_moveEntry_5 rfl ?_
  refine AF.getfield dX7_moveEntry_6 fl_X7_25 (by assumption) rfl ?_
  refine AF.iload_n dX7_moveEntry_9 rfl ?_
  refine AF.iaload (_) dX7_moveEntry_10 (by assumption) rfl (by omega) (by decide) ?_
  refine AF.iastoreF (_) dX7_moveEntry_11 s9 (by omega) rfl (by omega) (by decide) ?_
  intro F e9 h9 o9
  replace s0 := (o9 (b) (by omega)).trans s0
  replace s10 := (o9 (b + 10) (by omega)).trans s10
  replace s9 := h9
  replace hfr := hfr.step e9 (by omega) (by omega) o9
  clear e9 h9 o9
  refine AF.aload_n dX7_moveEntry_12 rfl ?_
  refine AF.getfield dX7_moveEntry_13 fl_X7_29 (by assumption) rfl ?_
  refine AF.iload_n dX7_moveEntry_16 rfl ?_
  refine AF.aload_n dX7_moveEntry_17 rfl ?_
  refine AF.getfield dX7_moveEntry_18 fl_X7_29 (by assumption) rfl ?_
  refine AF.iload_n dX7_moveEntry_21 rfl ?_
  refine AF.iaload (_) dX7_moveEntry_22 (by assumption) rfl (by omega) (by decide) ?_
  refine AF.iastoreF (_) dX7_moveEntry_23 s10 (by omega) rfl (by omega) (by decide) ?_
  intro F e9 h9 o9
  replace s0 := (o9 (b) (by omega)).trans s0
  replace s9 := (o9 (b + 9) (by omega)).trans s9
  replace s10 := h9
  replace hfr := hfr.step e9 (by omega) (by omega) o9
  clear e9 h9 o9
  exact AF.vreturn dX7_moveEntry_24 rfl ⟨rfl, ⟨s0, s9, s10⟩, hfr⟩
set_option maxRecDepth 100000 in
theorem X7_appendEntry_ok (hS : SA G F b σ) (ha : gN G ≤ b) (f t : Nat) (h6 : σ.E.length < 6) : AC G mX7_appendEntry 0 0 0 [.ref b, .int (nI f), .int (nI t)] F (SW G b (σ.J, σ.cap, σ.w, σ.Fg, σ.E ++ [(f, σ.bt + t)], σ.bt, σ.pum, σ.sht) (some (.int (nI (σ.bt + t)))) F) := by
  obtain ⟨ef, es, ⟨s0, s9, s10⟩, hE, hJ, hG⟩ := hS
  refine AC.of [some (.ref b), some (.int (nI f)), some (.int (nI t)), none] rfl (by decide) (Nat.le_of_ble_eq_true rfl) rfl ?_
  have hfr : Fr b (b + 11) F F := Fr.rf
  have e5 : (σ.E ++ [(f, σ.bt + t)]).length = σ.E.length + 1 := by simp
  refine AF.aload_n dX7_appendEntry_0 rfl ?_
  refine AF.getfield dX7_appendEntry_1 fl_X7_36 (by assumption) rfl ?_
  refine AF.iload_n dX7_appendEntry_4 rfl ?_
  refine AF.iadd dX7_appendEntry_5 ?_
  rw [nI_add]
  refine AF.istore_n dX7_appendEntry_6 (by decide) ?_
  refine AF.aload_n dX7_appendEntry_7 rfl ?_
  refine AF.getfield dX7_appendEntry_8 fl_X7_25 (by assumption) rfl ?_
  refine AF.aload_n dX7_appendEntry_11 rfl ?_
  refine AF.getfield dX7_appendEntry_12 fl_X7_32 (by assumption) rfl ?_
  refine AF.iload_n dX7_appendEntry_15 rfl ?_
  refine AF.iastoreF (_) dX7_appendEntry_16 s9 (by omega) rfl (by omega) (by decide) ?_
  intro F e9 h9 o9
  replace s0 := (o9 (b) (by omega)).trans s0
  replace s10 := (o9 (b + 10) (by omega)).trans s10
  replace hJ := hJ.kept (fun q h1 h2 => o9 q (by omega))
  replace hG := hG.kept (fun q h1 h2 => o9 q (by omega))
  replace s9 := h9
  replace hfr := hfr.step e9 (by omega) (by omega) o9
  clear e9 h9 o9
  refine AF.aload_n dX7_appendEntry_17 rfl ?_
  refine AF.getfield dX7_appendEntry_18 fl_X7_29 (by assumption) rfl ?_
  refine AF.aload_n dX7_appendEntry_21 rfl ?_
  refine AF.getfield dX7_appendEntry_22 fl_X7_32 (by assumption) rfl ?_
  refine AF.iload_n dX7_appendEntry_25 rfl ?_
  refine AF.iastoreF (_) dX7_appendEntry_26 s10 (by omega) rfl (by omega) (by decide) ?_
  intro F e9 h9 o9
  replace s0 := (o9 (b) (by omega)).trans s0
  replace s9 := (o9 (b + 9) (by omega)).trans s9
  replace hJ := hJ.kept (fun q h1 h2 => o9 q (by omega))
  replace hG := hG.kept (fun q h1 h2 => o9 q (by omega))
  replace s10 := h9
  replace hfr := hfr.step e9 (by omega) (by omega) o9
  clear e9 h9 o9
  refine AF.aload_n dX7_appendEntry_27 rfl ?_
  refine AF.dup dX7_appendEntry_28 rfl ?_
  refine AF.getfield dX7_appendEntry_29 fl_X7_32 (by assumption) rfl ?_
  refine AF.iconst (nI 1) dX7_appendEntry_32 (by decide) ?_
  refine AF.iadd dX7_appendEntry_33 ?_
  rw [nI_add, ← e5]
  refine AF.putfieldF dX7_appendEntry_34 fp_X7_32 s0 (by omega) (Nat.le_of_ble_eq_true rfl) rfl rfl (Or.inr fq_4_4) ?_
  intro F e9 h9 o9
  replace s9 := (o9 (b + 9) (by omega)).trans s9
  replace s10 := (o9 (b + 10) (by omega)).trans s10
  replace hJ := hJ.kept (fun q h1 h2 => o9 q (by omega))
  replace hG := hG.kept (fun q h1 h2 => o9 q (by omega))
  replace s0 := h9
  replace hfr := hfr.step e9 (by omega) (by omega) o9
  clear e9 h9 o9
  refine AF.iload_n dX7_appendEntry_37 rfl ?_
  refine AF.ireturn dX7_appendEntry_38 rfl ⟨rfl, ⟨_, _, ⟨s0, s9, s10⟩, ⟨by rw [e5]; omega, fun e he => ?_⟩, hJ, hG⟩, hfr⟩
  have he : e < (σ.E ++ [(f, σ.bt + t)]).length := he
  rw [e5] at he
  show _ = nI (en (σ.E ++ [(f, σ.bt + t)]) e).1 ∧ _ = nI (en (σ.E ++ [(f, σ.bt + t)]) e).2
  rw [en_app]
  by_cases q : e = σ.E.length
  · rw [if_pos q, q, upd_s, upd_s]
    exact ⟨rfl, rfl⟩
  · rw [if_neg q, upd_n q, upd_n q]
    exact hE.2 e (by omega)
set_option maxRecDepth 100000 in
theorem X7_dropEntry_ok (hS : SA G F b σ) (ha : gN G ≤ b) (x : Nat) (hx : x < σ.E.length) : AC G mX7_dropEntry 1 0 0 [.ref b, .int (nI x)] F (SW G b (σ.J, σ.cap, σ.w, σ.Fg, σ.E.eraseIdx x, σ.bt, σ.pum, σ.sht) (some (.int (nI (en σ.E x).2))) F) := by
  obtain ⟨ef, es, ⟨s0, s9, s10⟩, hE, hJ, hG⟩ := hS
  have h6 := hE.1
  have hlen : (σ.E.eraseIdx x).length = σ.E.length - 1 := List.length_eraseIdx_of_lt hx
  refine AC.of [some (.ref b), some (.int (nI x)), none, none] rfl (by decide) (Nat.le_of_ble_eq_true rfl) rfl ?_
  have hfr : Fr b (b + 11) F F := Fr.rf
  have loop : ∀ k j F1 ef1 es1, j + k = σ.E.length - 1 → x ≤ j → SA0 G F1 b (σ.E.length - 1) σ.bt σ.pum σ.sht ef1 es1 → JA G F1 (b + 1) σ.J σ.cap σ.w → FA G F1 (b + 4) σ.Fg → Fr b (b + 11) F F1 → (∀ i, i < j → ef1 i = nI (en (σ.E.eraseIdx x) i).1 ∧ es1 i = nI (en (σ.E.eraseIdx x) i).2) → (∀ i, j ≤ i → ef1 i = ef i ∧ es1 i = es i) → AF G mX7_dropEntry 1 0 0 (SW G b (σ.J, σ.cap, σ.w, σ.Fg, σ.E.eraseIdx x, σ.bt, σ.pum, σ.sht) (some (.int (nI (en σ.E x).2))) F) F1 19 [some (.ref b), some (.int (nI x)), some (.int (nI (en σ.E x).2)), some (.int (nI j))] [] := by
    intro k
    induction k with
    | zero =>
      intro j F ef1 es1 hj hxj hS hJ hG hfr h1 h2
      have hS0 := hS
      obtain ⟨s0, s9, s10⟩ := hS
      refine AF.iload_n dX7_dropEntry_19 rfl ?_
      refine AF.aload_n dX7_dropEntry_20 rfl ?_
      refine AF.getfield dX7_dropEntry_21 fl_X7_32 (by assumption) rfl ?_
      refine AF.icmp_ge 41 dX7_dropEntry_24 (by decide) (fun hb => ?_) (fun hb => ?_)
      · refine AF.iload_n dX7_dropEntry_41 rfl ?_
        exact AF.ireturn dX7_dropEntry_42 rfl ⟨rfl, ⟨ef1, es1, by rw [hlen]; exact hS0, ⟨by rw [hlen]; omega, fun e he => h1 e (by rw [hlen] at he; omega)⟩, hJ, hG⟩, hfr⟩
      · exact absurd (by rw [nI_leI (by omega) (by omega)]; omega) hb
    | succ k ih =>
      intro j F ef1 es1 hj hxj hS hJ hG hfr h1 h2
      have hS0 := hS
      obtain ⟨s0, s9, s10⟩ := hS
      refine AF.iload_n dX7_dropEntry_19 rfl ?_
      refine AF.aload_n dX7_dropEntry_20 rfl ?_
      refine AF.getfield dX7_dropEntry_21 fl_X7_32 (by assumption) rfl ?_
      refine AF.icmp_ge 41 dX7_dropEntry_24 (by decide) (fun hb => ?_) (fun hb => ?_)
      · rw [nI_leI (by omega) (by omega)] at hb
        omega
      · refine AF.aload_n dX7_dropEntry_27 rfl ?_
        refine AF.iload_n dX7_dropEntry_28 rfl ?_
        refine AF.iconst (nI 1) dX7_dropEntry_29 (by decide) ?_
        refine AF.iadd dX7_dropEntry_30 ?_
        rw [nI_add]
        refine AF.iload_n dX7_dropEntry_31 rfl ?_
        refine AF.vw dX7_dropEntry_32 kv_X7_92 (X7_moveEntry_ok hS0 ha (j + 1) j (by omega) (by omega)) (by assumption) rfl rfl rfl (Nat.le_of_ble_eq_true rfl) (by decide) rfl (fun E F9 q => nomatch q.1) (fun v F q => ?_)
        obtain ⟨q, hS, q2⟩ := q
        cases q
        replace hJ := hJ.fr q2 (by omega)
        replace hG := hG.fr q2 (by omega)
        replace hfr := hfr.trans q2 (by omega) (by omega)
        refine AF.inc1 dX7_dropEntry_35 rfl (by decide) ?_
        refine AF.goto 19 dX7_dropEntry_38 (by decide) ?_
        refine ih (j + 1) F _ _ (by omega) (by omega) hS hJ hG hfr (fun i hi => ?_) (fun i hi => ?_)
        · by_cases e : i = j
          · subst e
            rw [upd_s, upd_s, (h2 (i + 1) (by omega)).1, (h2 (i + 1) (by omega)).2, en_era, if_neg (by omega)]
            exact hE.2 (i + 1) (by omega)
          · rw [upd_n e, upd_n e]
            exact h1 i (by omega)
        · rw [upd_n (by omega), upd_n (by omega)]
          exact h2 i (by omega)
  refine AF.aload_n dX7_dropEntry_0 rfl ?_
  refine AF.getfield dX7_dropEntry_1 fl_X7_29 (by assumption) rfl ?_
  refine AF.iload_n dX7_dropEntry_4 rfl ?_
  refine AF.iaload (_) dX7_dropEntry_5 (by assumption) rfl (by omega) (by decide) ?_
  rw [(hE.2 x hx).2]
  refine AF.istore_n dX7_dropEntry_6 (by decide) ?_
  refine AF.aload_n dX7_dropEntry_7 rfl ?_
  refine AF.dup dX7_dropEntry_8 rfl ?_
  refine AF.getfield dX7_dropEntry_9 fl_X7_32 (by assumption) rfl ?_
  refine AF.iconst (nI 1) dX7_dropEntry_12 (by decide) ?_
  refine AF.isub dX7_dropEntry_13 ?_
  rw [show nI σ.E.length - nI 1 = nI (σ.E.length - 1) from pk_sub (by omega)]
  refine AF.putfieldF dX7_dropEntry_14 fp_X7_32 s0 (by omega) (Nat.le_of_ble_eq_true rfl) rfl rfl (Or.inr fq_4_4) ?_
  intro F e9 h9 o9
  replace s9 := (o9 (b + 9) (by omega)).trans s9
  replace s10 := (o9 (b + 10) (by omega)).trans s10
  replace hJ := hJ.kept (fun q h1 h2 => o9 q (by omega))
  replace hG := hG.kept (fun q h1 h2 => o9 q (by omega))
  replace s0 := h9
  replace hfr := hfr.step e9 (by omega) (by omega) o9
  clear e9 h9 o9
  refine AF.iload_n dX7_dropEntry_17 rfl ?_
  refine AF.istore_n dX7_dropEntry_18 (by decide) ?_
  refine loop (σ.E.length - 1 - x) x F ef es (by omega) (Nat.le_refl _) ⟨s0, s9, s10⟩ hJ hG hfr (fun i hi => ?_) (fun i _ => ⟨rfl, rfl⟩)
  rw [en_era, if_pos hi]
  exact hE.2 i (by omega)
set_option maxRecDepth 100000 in
theorem X7_dropFigure_ok (hS : SA G F b σ) (ha : gN G ≤ b) {B : Nat} (hI : SI σ B) (x : Nat) (hx : x < σ.Fg.length) : AC G mX7_dropFigure 2 0 0 [.ref b, .int (nI x)] F (SW G b (σ.J, σ.cap, σ.w, σ.Fg.eraseIdx x, σ.E.map (dcF x), σ.bt, σ.pum, σ.sht) (some (.int (nI (fg σ.Fg x).length))) F) := by
  obtain ⟨ef, es, ⟨s0, s9, s10⟩, hE, hJ, hG⟩ := hS
  have h6 := hE.1
  obtain ⟨-, -, -, -, -, h5, -⟩ := id hG
  refine AC.of [some (.ref b), some (.int (nI x)), none] rfl (by decide) (Nat.le_of_ble_eq_true rfl) rfl ?_
  have hfr : Fr b (b + 11) F F := Fr.rf
  have loop : ∀ k j F1 ef1, j + k = σ.E.length → SA0 G F1 b σ.E.length σ.bt σ.pum σ.sht ef1 es → JA G F1 (b + 1) σ.J σ.cap σ.w → FA G F1 (b + 4) σ.Fg → Fr b (b + 11) F F1 → (∀ i, i < j → ef1 i = nI (dcF x (en σ.E i)).1) → (∀ i, j ≤ i → ef1 i = ef i) → AF G mX7_dropFigure 2 0 0 (SW G b (σ.J, σ.cap, σ.w, σ.Fg.eraseIdx x, σ.E.map (dcF x), σ.bt, σ.pum, σ.sht) (some (.int (nI (fg σ.Fg x).length))) F) F1 2 [some (.ref b), some (.int (nI x)), some (.int (nI j))] [] := by
    intro k
    induction k with
    | zero =>
      intro j F ef1 hj hS hJ hG hfr h1 h2
      obtain ⟨s0, s9, s10⟩ := hS
      obtain ⟨-, -, -, -, ⟨g0, -⟩, -⟩ := id hG
      refine AF.iload_n dX7_dropFigure_2 rfl ?_
      refine AF.aload_n dX7_dropFigure_3 rfl ?_
      refine AF.getfield dX7_dropFigure_4 fl_X7_32 (by assumption) rfl ?_
      refine AF.icmp_ge 36 dX7_dropFigure_7 (by decide) (fun hb => ?_) (fun hb => ?_)
      · refine AF.aload_n dX7_dropFigure_36 rfl ?_
        refine AF.getfield dX7_dropFigure_37 fl_X7_21 (by assumption) rfl ?_
        refine AF.iload_n dX7_dropFigure_40 rfl ?_
        refine AF.vw dX7_dropFigure_41 kv_X7_83 (X2_drop_ok hG (by omega) x hx) (by assumption) rfl rfl rfl (Nat.le_of_ble_eq_true rfl) (by decide) rfl (fun E F9 q => nomatch q.1) (fun v F q => ?_)
        obtain ⟨q, hG, q2⟩ := q
        cases q
        replace s0 := (q2.2 (b) (by omega)).trans s0
        replace s9 := (q2.2 (b + 9) (by omega)).trans s9
        replace s10 := (q2.2 (b + 10) (by omega)).trans s10
        replace hJ := hJ.fr q2 (by omega)
        replace hfr := hfr.trans q2 (by omega) (by omega)
        refine AF.ireturn dX7_dropFigure_44 rfl ⟨rfl, ⟨ef1, es, ?_, ⟨by rw [List.length_map]; exact h6, fun e he => ?_⟩, hJ, hG⟩, hfr⟩
        · rw [List.length_map]; exact ⟨s0, s9, s10⟩
        · rw [List.length_map] at he
          rw [en_map he, h1 e (by omega), (hE.2 e he).2]
          exact ⟨rfl, rfl⟩
      · exact absurd (by rw [nI_leI (by omega) (by omega)]; omega) hb
    | succ k ih =>
      intro j F ef1 hj hS hJ hG hfr h1 h2
      obtain ⟨s0, s9, s10⟩ := hS
      have q1 := (hI.2.2.2.1 j (by omega)).1
      have qe : ef1 j = nI (en σ.E j).1 := by rw [h2 j (Nat.le_refl _), (hE.2 j (by omega)).1]
      refine AF.iload_n dX7_dropFigure_2 rfl ?_
      refine AF.aload_n dX7_dropFigure_3 rfl ?_
      refine AF.getfield dX7_dropFigure_4 fl_X7_32 (by assumption) rfl ?_
      refine AF.icmp_ge 36 dX7_dropFigure_7 (by decide) (fun hb => ?_) (fun hb => ?_)
      · rw [nI_leI (by omega) (by omega)] at hb
        omega
      · refine AF.aload_n dX7_dropFigure_10 rfl ?_
        refine AF.getfield dX7_dropFigure_11 fl_X7_25 (by assumption) rfl ?_
        refine AF.iload_n dX7_dropFigure_14 rfl ?_
        refine AF.iaload (_) dX7_dropFigure_15 (by assumption) rfl (by omega) (by decide) ?_
        rw [qe]
        refine AF.iload_n dX7_dropFigure_16 rfl ?_
        refine AF.icmp_le 30 dX7_dropFigure_17 (by decide) (fun hc => ?_) (fun hc => ?_)
        · rw [nI_leI (by omega) (by omega)] at hc
          refine AF.inc1 dX7_dropFigure_30 rfl (by decide) ?_
          refine AF.goto 2 dX7_dropFigure_33 (by decide) ?_
          refine ih (j + 1) F ef1 (by omega) ⟨s0, s9, s10⟩ hJ hG hfr (fun i hi => ?_) (fun i hi => h2 i (by omega))
          by_cases e : i = j
          · subst e
            rw [qe, dcF, if_neg (by omega)]
          · exact h1 i (by omega)
        · rw [nI_leI (by omega) (by omega)] at hc
          refine AF.aload_n dX7_dropFigure_20 rfl ?_
          refine AF.getfield dX7_dropFigure_21 fl_X7_25 (by assumption) rfl ?_
          refine AF.iload_n dX7_dropFigure_24 rfl ?_
          refine AF.dup2 dX7_dropFigure_25 rfl rfl ?_
          refine AF.iaload (_) dX7_dropFigure_26 (by assumption) rfl (by omega) (by decide) ?_
          rw [qe]
          refine AF.iconst (nI 1) dX7_dropFigure_27 (by decide) ?_
          refine AF.isub dX7_dropFigure_28 ?_
          rw [show nI (en σ.E j).1 - nI 1 = nI ((en σ.E j).1 - 1) from pk_sub (by omega)]
          refine AF.iastoreF (_) dX7_dropFigure_29 s9 (by omega) rfl (by omega) (by decide) ?_
          intro F e9 h9 o9
          replace s0 := (o9 (b) (by omega)).trans s0
          replace s10 := (o9 (b + 10) (by omega)).trans s10
          replace hJ := hJ.kept (fun q h1 h2 => o9 q (by omega))
          replace hG := hG.kept (fun q h1 h2 => o9 q (by omega))
          replace s9 := h9
          replace hfr := hfr.step e9 (by omega) (by omega) o9
          clear e9 h9 o9
          refine AF.inc1 dX7_dropFigure_30 rfl (by decide) ?_
          refine AF.goto 2 dX7_dropFigure_33 (by decide) ?_
          refine ih (j + 1) F _ (by omega) ⟨s0, s9, s10⟩ hJ hG hfr (fun i hi => ?_) (fun i hi => ?_)
          · by_cases e : i = j
            · subst e
              rw [upd_s, dcF, if_pos (by omega)]
            · rw [upd_n e]; exact h1 i (by omega)
          · rw [upd_n (by omega)]; exact h2 i (by omega)
  refine AF.iconst (nI 0) dX7_dropFigure_0 (by decide) ?_
  refine AF.istore_n dX7_dropFigure_1 (by decide) ?_
  exact loop σ.E.length 0 F ef (by omega) ⟨s0, s9, s10⟩ hJ hG hfr (fun i hi => absurd hi (Nat.not_lt_zero _)) (fun i _ => rfl)
/-- the jets after the first k steps of an entry had their turn -/
def hapK (L : List Sp) (st bt : Nat) (J : List Jt) : Nat → List Jt
  | 0 => J
  | k + 1 => if st + (g3 L k).1 = bt then (hapK L st bt J k).set (g3 L k).2.1 (jp (hapK L st bt J k) (g3 L k).2.1, (g3 L k).2.2) else hapK L st bt J k
theorem hapK_len {L : List Sp} {st bt : Nat} {J : List Jt} : ∀ k, (hapK L st bt J k).length = J.length
  | 0 => rfl
  | k + 1 => by
    simp only [hapK]
    split
    · rw [List.length_set]; exact hapK_len k
    · exact hapK_len k
theorem hapK_JI {L : List Sp} {st bt : Nat} {J : List Jt} (h : JI J) (hL : ∀ k, k < L.length → (g3 L k).2.2 ≤ 10) : ∀ k, k ≤ L.length → JI (hapK L st bt J k)
  | 0, _ => h
  | k + 1, hk => by
    have h1 := hapK_JI (st := st) (bt := bt) h hL k (by omega)
    simp only [hapK]
    split
    · exact JI_set h1 (h1 _).1 (hL k (by omega))
    · exact h1
/-- .. and the first e entries -/
def hapE (Fg : List (List Sp)) (E : List En) (bt : Nat) (J : List Jt) : Nat → List Jt
  | 0 => J
  | e + 1 => hapK (fg Fg (en E e).1) (en E e).2 bt (hapE Fg E bt J e) (fg Fg (en E e).1).length
theorem hapE_len {Fg : List (List Sp)} {E : List En} {bt : Nat} {J : List Jt} : ∀ e, (hapE Fg E bt J e).length = J.length
  | 0 => rfl
  | e + 1 => by rw [hapE, hapK_len]; exact hapE_len e
theorem hapE_JI {Fg : List (List Sp)} {E : List En} {bt n : Nat} {J : List Jt} (h : JI J) (hF : FI Fg n) : ∀ e, JI (hapE Fg E bt J e)
  | 0 => h
  | e + 1 => hapK_JI (hapE_JI h hF e) (fun k hk => (hF _ k hk).2.2) _ (Nat.le_refl _)
set_option maxRecDepth 100000 in
theorem X7_happenDueSteps_ok (hS : SA G F b σ) (ha : gN G ≤ b) {B : Nat} (hB : B ≤ 2 ^ 21) (hbt : σ.bt ≤ B) (hen : ∀ e, e < σ.E.length → (en σ.E e).1 < σ.Fg.length ∧ (en σ.E e).2 ≤ B + 30) (hFI : FI σ.Fg σ.J.length) (e : Nat) (he : e < σ.E.length) : AC G mX7_happenDueSteps 1 0 0 [.ref b, .int (nI e)] F (SW G b (hapK (fg σ.Fg (en σ.E e).1) (en σ.E e).2 σ.bt σ.J (fg σ.Fg (en σ.E e).1).length, σ.cap, σ.w, σ.Fg, σ.E, σ.bt, σ.pum, σ.sht) none F) := by
  obtain ⟨ef, es, ⟨s0, s9, s10⟩, hE, hJ, hG⟩ := hS
  have h6 := hE.1
  obtain ⟨f, g, ⟨j0, j1, j2⟩, hr⟩ := hJ
  have hn := hr.1
  obtain ⟨hi, hst⟩ := hen e he
  refine AC.of [some (.ref b), some (.int (nI e)), none, none, none] rfl (by decide) (Nat.le_of_ble_eq_true rfl) rfl ?_
  have hfr : Fr b (b + 11) F F := Fr.rf
  have loop : ∀ k j F1 g1 z, j + k = (fg σ.Fg (en σ.E e).1).length → SA0 G F1 b σ.E.length σ.bt σ.pum σ.sht ef es → JA0 G F1 (b + 1) σ.J.length f g1 σ.cap σ.w → JR (hapK (fg σ.Fg (en σ.E e).1) (en σ.E e).2 σ.bt σ.J j) f g1 → FA G F1 (b + 4) σ.Fg → Fr b (b + 11) F F1 → AF G mX7_happenDueSteps 1 0 0 (SW G b (hapK (fg σ.Fg (en σ.E e).1) (en σ.E e).2 σ.bt σ.J (fg σ.Fg (en σ.E e).1).length, σ.cap, σ.w, σ.Fg, σ.E, σ.bt, σ.pum, σ.sht) none F) F1 9 [some (.ref b), some (.int (nI e)), some (.int (nI (en σ.E e).1)), some (.int (nI j)), z] [] := by
    intro k
    induction k with
    | zero =>
      intro j F gg z hj hS hJ hrr hG hfr
      have hS0 := hS
      obtain ⟨s0, s9, s10⟩ := hS
      obtain ⟨sc, dl, jt, op, ⟨g0, g1, g2, g3', g4⟩, hfg⟩ := id hG
      have h8 := (hfg.2 _ hi).1
      have h5 := hfg.1
      refine AF.iload_n dX7_happenDueSteps_9 rfl ?_
      refine AF.aload_n dX7_happenDueSteps_10 rfl ?_
      refine AF.getfield dX7_happenDueSteps_11 fl_X7_21 (by assumption) rfl ?_
      refine AF.getfield dX7_happenDueSteps_14 fl_X7_89 (by assumption) rfl ?_
      refine AF.iload_n dX7_happenDueSteps_17 rfl ?_
      refine AF.iaload (_) dX7_happenDueSteps_18 (by assumption) rfl (by omega) (by decide) ?_
      rw [(hfg.2 _ hi).2.1]
      refine AF.icmp_ge 87 dX7_happenDueSteps_19 (by decide) (fun hb => ?_) (fun hb => ?_)
      · rw [show j = (fg σ.Fg (en σ.E e).1).length by omega] at hrr
        refine AF.vreturn dX7_happenDueSteps_87 rfl ⟨rfl, ⟨ef, es, hS0, hE, ⟨f, gg, ?_, hrr⟩, hG⟩, hfr⟩
        rw [hapK_len]
        exact hJ
      · exact absurd (by rw [nI_leI (by omega) (by omega)]; omega) hb
    | succ k ih =>
      intro j F gg z hj hS hJ hrr hG hfr
      have hS0 := hS
      have hJ0 := hJ
      obtain ⟨s0, s9, s10⟩ := hS
      obtain ⟨j0, j1, j2⟩ := hJ
      obtain ⟨sc, dl, jt, op, ⟨g0, g1, g2, g3', g4⟩, hfg⟩ := id hG
      have h8 := (hfg.2 _ hi).1
      have h5 := hfg.1
      have hrow := (hfg.2 _ hi).2.2 j (by omega)
      have hlim := hFI _ j (show j < (fg σ.Fg (en σ.E e).1).length by omega)
      refine AF.iload_n dX7_happenDueSteps_9 rfl ?_
      refine AF.aload_n dX7_happenDueSteps_10 rfl ?_
      refine AF.getfield dX7_happenDueSteps_11 fl_X7_21 (by assumption) rfl ?_
      refine AF.getfield dX7_happenDueSteps_14 fl_X7_89 (by assumption) rfl ?_
      refine AF.iload_n dX7_happenDueSteps_17 rfl ?_
      refine AF.iaload (_) dX7_happenDueSteps_18 (by assumption) rfl (by omega) (by decide) ?_
      rw [(hfg.2 _ hi).2.1]
      refine AF.icmp_ge 87 dX7_happenDueSteps_19 (by decide) (fun hb => ?_) (fun hb => ?_)
      · rw [nI_leI (by omega) (by omega)] at hb
        omega
      · refine AF.iload_n dX7_happenDueSteps_22 rfl ?_
        refine AF.iload_n dX7_happenDueSteps_23 rfl ?_
        refine AF.sn1 dX7_happenDueSteps_24 kn_X7_112 ((X8_slot_ok (en σ.E e).1 j)) rfl rfl (Nat.le_of_ble_eq_true rfl) (by decide) rfl ?_
        refine AF.istore dX7_happenDueSteps_27 (by decide) ?_
        refine AF.aload_n dX7_happenDueSteps_29 rfl ?_
        refine AF.getfield dX7_happenDueSteps_30 fl_X7_29 (by assumption) rfl ?_
        refine AF.iload_n dX7_happenDueSteps_33 rfl ?_
        refine AF.iaload (_) dX7_happenDueSteps_34 (by assumption) rfl (by omega) (by decide) ?_
        rw [(hE.2 e he).2]
        refine AF.aload_n dX7_happenDueSteps_35 rfl ?_
        refine AF.getfield dX7_happenDueSteps_36 fl_X7_21 (by assumption) rfl ?_
        refine AF.getfield dX7_happenDueSteps_39 fl_X7_116 (by assumption) rfl ?_
        refine AF.iload dX7_happenDueSteps_42 rfl ?_
        refine AF.iaload (_) dX7_happenDueSteps_44 (by assumption) rfl (by omega) (by decide) ?_
        rw [hrow.1]
        refine AF.iadd dX7_happenDueSteps_45 ?_
        rw [nI_add]
        refine AF.aload_n dX7_happenDueSteps_46 rfl ?_
        refine AF.getfield dX7_happenDueSteps_47 fl_X7_36 (by assumption) rfl ?_
        refine AF.icmp_ne 81 dX7_happenDueSteps_50 (by decide) (fun hc => ?_) (fun hc => ?_)
        · rw [nI_eq (by omega) (by omega)] at hc
          refine AF.inc1 dX7_happenDueSteps_81 rfl (by decide) ?_
          refine AF.goto 9 dX7_happenDueSteps_84 (by decide) ?_
          refine ih (j + 1) F gg _ (by omega) hS0 hJ0 ?_ hG hfr
          rw [hapK, if_neg hc]
          exact hrr
        · rw [nI_eq (by omega) (by omega)] at hc
          refine AF.aload_n dX7_happenDueSteps_53 rfl ?_
          refine AF.getfield dX7_happenDueSteps_54 fl_X7_12 (by assumption) rfl ?_
          refine AF.getfield dX7_happenDueSteps_57 fl_X7_119 (by assumption) rfl ?_
          refine AF.aload_n dX7_happenDueSteps_60 rfl ?_
          refine AF.getfield dX7_happenDueSteps_61 fl_X7_21 (by assumption) rfl ?_
          refine AF.getfield dX7_happenDueSteps_64 fl_X7_122 (by assumption) rfl ?_
          refine AF.iload dX7_happenDueSteps_67 rfl ?_
          refine AF.iaload (_) dX7_happenDueSteps_69 (by assumption) rfl (by omega) (by decide) ?_
          rw [hrow.2.1]
          refine AF.aload_n dX7_happenDueSteps_70 rfl ?_
          refine AF.getfield dX7_happenDueSteps_71 fl_X7_21 (by assumption) rfl ?_
          refine AF.getfield dX7_happenDueSteps_74 fl_X7_124 (by assumption) rfl ?_
          refine AF.iload dX7_happenDueSteps_77 rfl ?_
          refine AF.iaload (_) dX7_happenDueSteps_79 (by assumption) rfl (by omega) (by decide) ?_
          rw [hrow.2.2]
          refine AF.iastoreF (_) dX7_happenDueSteps_80 j2 (by omega) rfl (by omega) (by decide) ?_
          intro F e9 h9 o9
          replace s0 := (o9 (b) (by omega)).trans s0
          replace s9 := (o9 (b + 9) (by omega)).trans s9
          replace s10 := (o9 (b + 10) (by omega)).trans s10
          replace j0 := (o9 (b + 1) (by omega)).trans j0
          replace j1 := (o9 (b + 1 + 1) (by omega)).trans j1
          replace hG := hG.kept (fun q h1 h2 => o9 q (by omega))
          replace g0 := (o9 (b + 4) (by omega)).trans g0
          replace g1 := (o9 (b + 4 + 1) (by omega)).trans g1
          replace g2 := (o9 (b + 4 + 2) (by omega)).trans g2
          replace g3' := (o9 (b + 4 + 3) (by omega)).trans g3'
          replace g4 := (o9 (b + 4 + 4) (by omega)).trans g4
          replace j2 := h9
          replace hfr := hfr.step e9 (by omega) (by omega) o9
          clear e9 h9 o9
          refine AF.inc1 dX7_happenDueSteps_81 rfl (by decide) ?_
          refine AF.goto 9 dX7_happenDueSteps_84 (by decide) ?_
          refine ih (j + 1) F _ _ (by omega) ⟨s0, s9, s10⟩ ⟨j0, j1, j2⟩ ?_ hG hfr
          rw [hapK, if_pos hc]
          exact hrr.setO (by rw [hapK_len]; omega)
  refine AF.aload_n dX7_happenDueSteps_0 rfl ?_
  refine AF.getfield dX7_happenDueSteps_1 fl_X7_25 (by assumption) rfl ?_
  refine AF.iload_n dX7_happenDueSteps_4 rfl ?_
  refine AF.iaload (_) dX7_happenDueSteps_5 (by assumption) rfl (by omega) (by decide) ?_
  rw [(hE.2 e he).1]
  refine AF.istore_n dX7_happenDueSteps_6 (by decide) ?_
  refine AF.iconst (nI 0) dX7_happenDueSteps_7 (by decide) ?_
  refine AF.istore_n dX7_happenDueSteps_8 (by decide) ?_
  exact loop (fg σ.Fg (en σ.E e).1).length 0 F g none (by omega) ⟨s0, s9, s10⟩ ⟨j0, j1, j2⟩ hr hG hfr
end

