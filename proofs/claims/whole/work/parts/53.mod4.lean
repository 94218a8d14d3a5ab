/-! The reference: figures and entries, added and removed. -/
theorem SG.app {Fg : List (List Sp)} {f f' : Nat → Int32} (h : SG Fg f) (hl : Fg.length < 5) (hs : f' (28 + 25 * Fg.length) = 0) (ho : ∀ q, 28 ≤ q → q < 28 + 25 * Fg.length → f' q = f q) : SG (Fg ++ [[]]) f' := by
  have e5 : (Fg ++ [[]]).length = Fg.length + 1 := by simp
  refine ⟨by rw [e5]; omega, fun i hi => ?_⟩
  rw [e5] at hi
  rw [fg, gd_app]
  by_cases e : i = Fg.length
  · rw [if_pos e, e]
    exact ⟨Nat.zero_le _, hs, fun k hk => absurd hk (Nat.not_lt_zero _)⟩
  · rw [if_neg e]
    obtain ⟨q8, q9, q10⟩ := h.2 i (by omega)
    refine ⟨q8, by rw [ho _ (by omega) (by omega)]; exact q9, fun k hk => ?_⟩
    have hk : k < (fg Fg i).length := hk
    rw [ho _ (by omega) (by omega), ho _ (by omega) (by omega), ho _ (by omega) (by omega)]
    exact q10 k hk
theorem SG.era {Fg : List (List Sp)} {f f' : Nat → Int32} {x : Nat} (h : SG Fg f) (hx : x < Fg.length) (h1 : ∀ q, 28 ≤ q → q < 28 + 25 * x → f' q = f q) (h2 : ∀ q, 28 + 25 * x ≤ q → q < 28 + 25 * (Fg.length - 1) → f' q = f (q + 25)) : SG (Fg.eraseIdx x) f' := by
  have e5 : (Fg.eraseIdx x).length = Fg.length - 1 := List.length_eraseIdx_of_lt hx
  have h5 := h.1
  refine ⟨by rw [e5]; omega, fun i hi => ?_⟩
  rw [e5] at hi
  rw [fg, gd_era]
  by_cases e : i < x
  · rw [if_pos e]
    obtain ⟨q8, q9, q10⟩ := h.2 i (by omega)
    refine ⟨q8, by rw [h1 _ (by omega) (by omega)]; exact q9, fun k hk => ?_⟩
    have hk : k < (fg Fg i).length := hk
    rw [h1 _ (by omega) (by omega), h1 _ (by omega) (by omega), h1 _ (by omega) (by omega)]
    exact q10 k hk
  · rw [if_neg e]
    obtain ⟨q8, q9, q10⟩ := h.2 (i + 1) (by omega)
    refine ⟨q8, by rw [h2 _ (by omega) (by omega), show 28 + 25 * i + 25 = 28 + 25 * (i + 1) by omega]; exact q9, fun k hk => ?_⟩
    have hk : k < (fg Fg (i + 1)).length := hk
    rw [h2 _ (by omega) (by omega), h2 _ (by omega) (by omega), h2 _ (by omega) (by omega), show 28 + 25 * i + 1 + 3 * k + 25 = 28 + 25 * (i + 1) + 1 + 3 * k by omega, show 28 + 25 * i + 1 + 3 * k + 1 + 25 = 28 + 25 * (i + 1) + 1 + 3 * k + 1 by omega, show 28 + 25 * i + 1 + 3 * k + 2 + 25 = 28 + 25 * (i + 1) + 1 + 3 * k + 2 by omega]
    exact q10 k hk
theorem SR.fig {σ : Sg} {f : Nat → Int32} (h : SR σ f) (hl : σ.Fg.length < 5) : SR (aFig σ) (upd (zfl f (28 + 25 * σ.Fg.length) (28 + 25 * σ.Fg.length + 25)) 1 (nI (σ.Fg.length + 1))) := by
  obtain ⟨⟨a0, a1, a2, a3, a4, a5, a6, a7⟩, hJ, hG, hE⟩ := h
  have e5 : (σ.Fg ++ [[]]).length = σ.Fg.length + 1 := by simp
  have hk : ∀ q, (q < 28 ∨ 153 ≤ q) → ¬ q = 1 → upd (zfl f (28 + 25 * σ.Fg.length) (28 + 25 * σ.Fg.length + 25)) 1 (nI (σ.Fg.length + 1)) q = f q := fun q h1 h2 => by
    rw [upd_n h2, zfl_o (by omega)]
  refine ⟨⟨?_, ?_, ?_, ?_, ?_, ?_, ?_, ?_⟩, hJ.kept (fun q h1 h2 => hk q (by omega) (by omega)), hG.app hl (by rw [upd_n (by omega), zfl_i (by omega) (by omega)]) (fun q h1 h2 => by rw [upd_n (by omega), zfl_o (by omega)]), hE.kept (fun q h1 h2 => hk q (by omega) (by omega))⟩
  · rw [hk _ (by omega) (by omega)]; exact a0
  · rw [upd_s]; show _ = nI (σ.Fg ++ [[]]).length; rw [e5]
  · rw [hk _ (by omega) (by omega)]; exact a2
  · rw [hk _ (by omega) (by omega)]; exact a3
  · rw [hk _ (by omega) (by omega)]; exact a4
  · rw [hk _ (by omega) (by omega)]; exact a5
  · rw [hk _ (by omega) (by omega)]; exact a6
  · rw [hk _ (by omega) (by omega)]; exact a7
theorem SE.app {E : List En} {f : Nat → Int32} {a t : Nat} (h : SE E f) (hl : E.length < 6) : SE (E ++ [(a, t)]) (upd (upd f (153 + 2 * E.length) (nI a)) (153 + 2 * E.length + 1) (nI t)) := by
  have e5 : (E ++ [(a, t)]).length = E.length + 1 := by simp
  refine ⟨by rw [e5]; omega, fun i hi => ?_⟩
  rw [e5] at hi
  rw [en_app]
  by_cases e : i = E.length
  · subst e
    rw [if_pos rfl]
    refine ⟨?_, upd_s⟩
    rw [upd_n (by omega), upd_s]
  · rw [if_neg e]
    have := h.2 i (by omega)
    refine ⟨?_, ?_⟩
    · rw [upd_n (by omega), upd_n (by omega)]; exact this.1
    · rw [upd_n (by omega), upd_n (by omega)]; exact this.2
theorem SE.era {E : List En} {f f' : Nat → Int32} {x : Nat} (h : SE E f) (hx : x < E.length) (h1 : ∀ q, 153 ≤ q → q < 153 + 2 * x → f' q = f q) (h2 : ∀ q, 153 + 2 * x ≤ q → q < 153 + 2 * (E.length - 1) → f' q = f (q + 2)) : SE (E.eraseIdx x) f' := by
  have e5 : (E.eraseIdx x).length = E.length - 1 := List.length_eraseIdx_of_lt hx
  have h5 := h.1
  refine ⟨by rw [e5]; omega, fun i hi => ?_⟩
  rw [e5] at hi
  rw [en_era]
  by_cases e : i < x
  · rw [if_pos e, h1 _ (by omega) (by omega), h1 _ (by omega) (by omega)]
    exact h.2 i (by omega)
  · rw [if_neg e, h2 _ (by omega) (by omega), h2 _ (by omega) (by omega), show 153 + 2 * i + 2 = 153 + 2 * (i + 1) by omega, show 153 + 2 * i + 1 + 2 = 153 + 2 * (i + 1) + 1 by omega]
    exact h.2 (i + 1) (by omega)
/-- the queue new -/
theorem SR.ents {σ : Sg} {E' : List En} {f f' : Nat → Int32} (h : SR σ f) (hE : SE E' f') (h2 : f' 2 = nI E'.length) (e : ∀ q, q < 153 → ¬ q = 2 → f' q = f q) : SR (σ.J, σ.cap, σ.w, σ.Fg, E', σ.bt, σ.pum, σ.sht) f' := by
  obtain ⟨⟨a0, a1, a2, a3, a4, a5, a6, a7⟩, hJ, hG, -⟩ := h
  refine ⟨⟨?_, ?_, h2, ?_, ?_, ?_, ?_, ?_⟩, hJ.kept (fun q h1 h2 => e q (by omega) (by omega)), hG.kept (fun q h1 h2 => e q (by omega) (by omega)), hE⟩ <;> rw [e _ (by omega) (by omega)] <;> assumption
section
variable {G : GA} {F : AH} {m : Nat} {g f : Nat → Int32} {A : Nat → Nat → Int32} {σ : Sg} {B : Nat} {Fg : List (List Sp)}
set_option maxRecDepth 100000 in
theorem X9_addsFigure_ok (hM : MA G F m g f A) (ha : gN G ≤ m) (hS : SR σ f) : AC G mX9_addsFigure 2 0 0 [.ref m] F (MD G m (aFig σ) g f A (if σ.Fg.length < 5 then 0 else 1) (nI σ.Fg.length) F) := by
  have h5 := hS.2.2.1.1
  have hM0 := hM
  obtain ⟨h0, h1, hR⟩ := hM
  refine AC.of [some (.ref m), none, none] rfl (by decide) (Nat.le_of_ble_eq_true rfl) rfl ?_
  have hfr : Fr m (m + 9) F F := Fr.rf
  refine AF.aload_n dX9_addsFigure_0 rfl ?_
  refine AF.getfield dX9_addsFigure_1 fl_X9_7 (by assumption) rfl ?_
  refine AF.iconst (nI 1) dX9_addsFigure_4 (by decide) ?_
  refine AF.iaload (_) dX9_addsFigure_5 (by assumption) rfl (by omega) (by decide) ?_
  rw [hS.1.2.1]
  refine AF.istore_n dX9_addsFigure_6 (by decide) ?_
  refine AF.iload_n dX9_addsFigure_7 rfl ?_
  refine AF.iconst (nI 5) dX9_addsFigure_8 (by decide) ?_
  refine AF.icmp_ne 14 dX9_addsFigure_9 (by decide) (fun hc => ?_) (fun hc => ?_)
  · rw [nI_eq (by omega) (by omega)] at hc
    have hl : σ.Fg.length < 5 := by omega
    rw [if_pos hl]
    have zl : ∀ k j F1, j + k = 25 → MA G F1 m g (zfl f (28 + 25 * σ.Fg.length) (28 + 25 * σ.Fg.length + j)) A → Fr m (m + 9) F F1 → AF G mX9_addsFigure 2 0 0 (MD G m (aFig σ) g f A 0 (nI σ.Fg.length) F) F1 16 [some (.ref m), some (.int (nI σ.Fg.length)), some (.int (nI j))] [] := by
      intro k
      induction k with
      | zero =>
        intro j F1 hj hM hfr
        obtain rfl : j = 25 := by omega
        obtain ⟨h0, h1, hR⟩ := hM
        refine AF.iload_n dX9_addsFigure_16 rfl ?_
        refine AF.bipush (nI 25) dX9_addsFigure_17 (by decide) ?_
        refine AF.icmp_ge 43 dX9_addsFigure_19 (by decide) (fun hb => ?_) (fun hb => ?_)
        · refine AF.aload_n dX9_addsFigure_43 rfl ?_
          refine AF.getfield dX9_addsFigure_44 fl_X9_7 (by assumption) rfl ?_
          refine AF.iconst (nI 1) dX9_addsFigure_47 (by decide) ?_
          refine AF.iload_n dX9_addsFigure_48 rfl ?_
          refine AF.iconst (nI 1) dX9_addsFigure_49 (by decide) ?_
          refine AF.iadd dX9_addsFigure_50 ?_
          rw [nI_add]
          refine AF.iastoreF (_) dX9_addsFigure_51 h1 (by omega) rfl (by omega) (by decide) ?_
          intro F e9 h9 o9
          replace h0 := (o9 (m) (by omega)).trans h0
          replace hR := hR.kept (fun q h1 h2 => o9 q (by omega))
          replace h1 := h9
          replace hfr := hfr.step e9 (by omega) (by omega) o9
          clear e9 h9 o9
          refine AF.aload_n dX9_addsFigure_52 rfl ?_
          refine AF.iload_n dX9_addsFigure_53 rfl ?_
          refine AF.vw dX9_addsFigure_54 kv_X9_87 (X9_done_ok ⟨h0, h1, hR⟩ ha (nI σ.Fg.length)) (by assumption) rfl rfl rfl (Nat.le_of_ble_eq_true rfl) (by decide) rfl (fun E F9 q => nomatch q.1) (fun v F q => ?_)
          obtain ⟨q, hM, q2⟩ := q
          cases q
          exact AF.ireturn dX9_addsFigure_57 rfl (MD.yes (hS.fig hl) hM (hfr.trans q2 (Nat.le_refl _) (Nat.le_refl _)))
        · exact absurd (by rw [nI_leI (by omega) (by omega)]; omega) hb
      | succ k ih =>
        intro j F1 hj hM hfr
        obtain ⟨h0, h1, hR⟩ := hM
        refine AF.iload_n dX9_addsFigure_16 rfl ?_
        refine AF.bipush (nI 25) dX9_addsFigure_17 (by decide) ?_
        refine AF.icmp_ge 43 dX9_addsFigure_19 (by decide) (fun hb => ?_) (fun hb => ?_)
        · rw [nI_leI (by omega) (by omega)] at hb
          omega
        · refine AF.aload_n dX9_addsFigure_22 rfl ?_
          refine AF.getfield dX9_addsFigure_23 fl_X9_7 (by assumption) rfl ?_
          refine AF.bipush (nI 28) dX9_addsFigure_26 (by decide) ?_
          refine AF.bipush (nI 25) dX9_addsFigure_28 (by decide) ?_
          refine AF.iload_n dX9_addsFigure_30 rfl ?_
          refine AF.imul dX9_addsFigure_31 ?_
          refine AF.iadd dX9_addsFigure_32 ?_
          refine AF.iload_n dX9_addsFigure_33 rfl ?_
          refine AF.iadd dX9_addsFigure_34 ?_
          refine AF.iconst (nI 0) dX9_addsFigure_35 (by decide) ?_
          refine AF.iastoreF (28 + 25 * σ.Fg.length + j) dX9_addsFigure_36 h1 (by omega) (by first | rfl | exact nI_1 _ | (simp only [nI_add, pk_mul, nI_1]; exact congrArg nI (by omega)) | simp only [nI_add, pk_mul, nI_1]) (by omega) (by decide) ?_
          intro F e9 h9 o9
          replace h0 := (o9 (m) (by omega)).trans h0
          replace hR := hR.kept (fun q h1 h2 => o9 q (by omega))
          replace h1 := h9
          replace hfr := hfr.step e9 (by omega) (by omega) o9
          clear e9 h9 o9
          rw [show nI 0 = (0 : Int32) from rfl, zfl_step (by omega)] at h1
          refine AF.inc1 dX9_addsFigure_37 rfl (by decide) ?_
          refine AF.goto 16 dX9_addsFigure_40 (by decide) ?_
          exact ih (j + 1) F (by omega) ⟨h0, h1, hR⟩ hfr
    refine AF.iconst (nI 0) dX9_addsFigure_14 (by decide) ?_
    refine AF.istore_n dX9_addsFigure_15 (by decide) ?_
    exact zl 25 0 F (by omega) (by rw [show 28 + 25 * σ.Fg.length + 0 = 28 + 25 * σ.Fg.length from rfl, zfl_0]; exact hM0) hfr
  · rw [nI_eq (by omega) (by omega)] at hc
    rw [if_neg (by omega)]
    refine AF.iconst (1) dX9_addsFigure_12 (by decide) ?_
    exact AF.ireturn dX9_addsFigure_13 rfl (MD.no (by decide) hM0 hfr)
set_option maxRecDepth 100000 in
theorem X9_isStep_ok (hM : MA G F m g f A) (hS : SR σ f) (x y : Int32) : AC G mX9_isStep 2 0 0 [.ref m, .int x, .int y] F (AV (some (.int (bI (hsB σ.Fg x y)))) F) := by
  have hT := X9_isFigure_ok hM hS x
  have hV := fun j hj => X9_steps_ok hM j hj
  have h5 := hS.2.2.1.1
  obtain ⟨h0, h1, hR⟩ := hM
  refine AC.of [some (.ref m), some (.int x), some (.int y)] rfl (by decide) (Nat.le_of_ble_eq_true rfl) rfl ?_
  unfold hsB
  refine AF.aload_n dX9_isStep_0 rfl ?_
  refine AF.iload_n dX9_isStep_1 rfl ?_
  refine AF.v1 dX9_isStep_2 kv_X9_101 (hT) (by assumption) rfl rfl rfl (Nat.le_of_ble_eq_true rfl) (by decide) rfl ?_
  refine AF.if_eq 27 dX9_isStep_5 (by decide) (fun c1 => ?_) (fun c1 => ?_)
  · have c1 := bI_z c1
    refine AF.iconst (0) dX9_isStep_27 (by decide) ?_
    exact AF.zreturn dX9_isStep_28 rfl rfl ⟨by rw [c1]; rfl, rfl⟩
  · have c1 := bI_n c1
    rw [c1, Bool.true_and]
    obtain ⟨i, hi, rfl⟩ := hasB_nI (by omega) c1
    rw [nI_clamp (by omega)]
    have h8 := (hS.2.2.1.2 i hi).1
    refine AF.iload_n dX9_isStep_8 rfl ?_
    refine AF.iconst (0) dX9_isStep_9 (by decide) ?_
    refine AF.aload_n dX9_isStep_10 rfl ?_
    refine AF.iload_n dX9_isStep_11 rfl ?_
    refine AF.v1 dX9_isStep_12 kv_X9_77 ((hV i (by omega))) (by assumption) rfl rfl rfl (Nat.le_of_ble_eq_true rfl) (by decide) rfl ?_
    rw [(hS.2.2.1.2 i hi).2.1]
    refine AF.iconst (1) dX9_isStep_15 (by decide) ?_
    refine AF.isub dX9_isStep_16 ?_
    refine AF.s1 dX9_isStep_17 kv_X9_57 ((X9_in_ok y 0 (nI (fg σ.Fg i).length - 1))) rfl rfl (Nat.le_of_ble_eq_true rfl) (by decide) rfl ?_
    rw [inB_has (by omega)]
    refine AF.if_eq 27 dX9_isStep_20 (by decide) (fun c2 => ?_) (fun c2 => ?_)
    · have c2 := bI_z c2
      refine AF.iconst (0) dX9_isStep_27 (by decide) ?_
      exact AF.zreturn dX9_isStep_28 rfl rfl ⟨by rw [c2]; rfl, rfl⟩
    · have c2 := bI_n c2
      refine AF.iconst (1) dX9_isStep_23 (by decide) ?_
      refine AF.goto 28 dX9_isStep_24 (by decide) ?_
      exact AF.zreturn dX9_isStep_28 rfl rfl ⟨by rw [c2]; rfl, rfl⟩
set_option maxRecDepth 100000 in
theorem X9_addsStep_ok (hM : MA G F m g f A) (ha : gN G ≤ m) (hS : SR σ f) (x y z u : Int32) : AC G mX9_addsStep 2 0 0 [.ref m, .int x, .int y, .int z, .int u] F (MD G m (aStp σ x y z u) g f A (if pStp σ x y z u = 4 then 3 else pStp σ x y z u) (nI ((fg σ.Fg (cl x)).length + 1)) F) := by
  have hT := X9_isFigure_ok hM hS x
  have hU := X9_isJet_ok hM hS z
  have hV := fun j hj => X9_steps_ok hM j hj
  have h5 := hS.2.2.1.1
  have hn := hS.2.1.1
  have hM0 := hM
  obtain ⟨h0, h1, hR⟩ := hM
  refine AC.of [some (.ref m), some (.int x), some (.int y), some (.int z), some (.int u), none, none] rfl (by decide) (Nat.le_of_ble_eq_true rfl) rfl ?_
  have hfr : Fr m (m + 9) F F := Fr.rf
  refine AF.aload_n dX9_addsStep_0 rfl ?_
  refine AF.iload_n dX9_addsStep_1 rfl ?_
  refine AF.v1 dX9_addsStep_2 kv_X9_101 (hT) (by assumption) rfl rfl rfl (Nat.le_of_ble_eq_true rfl) (by decide) rfl ?_
  refine AF.if_eq 16 dX9_addsStep_5 (by decide) (fun c1 => ?_) (fun c1 => ?_)
  · have c1 := bI_z c1
    rw [show (if pStp σ x y z u = 4 then 3 else pStp σ x y z u) = 1 from by rw [show pStp σ x y z u = 1 from by rw [pStp, if_pos (Or.inl c1)]]; rfl]
    refine AF.iconst (1) dX9_addsStep_16 (by decide) ?_
    exact AF.ireturn dX9_addsStep_17 rfl (MD.no (by decide) hM0 hfr)
  · have c1 := bI_n c1
    refine AF.aload_n dX9_addsStep_8 rfl ?_
    refine AF.iload_n dX9_addsStep_9 rfl ?_
    refine AF.v1 dX9_addsStep_10 kv_X9_90 (hU) (by assumption) rfl rfl rfl (Nat.le_of_ble_eq_true rfl) (by decide) rfl ?_
    refine AF.if_ne 18 dX9_addsStep_13 (by decide) (fun c2 => ?_) (fun c2 => ?_)
    · have c2 := bI_n c2
      have e1 : ¬ (hasB σ.Fg.length x = false ∨ hasB σ.J.length z = false) := by rintro (q | q); rw [c1] at q; cases q; rw [c2] at q; cases q
      refine AF.iload_n dX9_addsStep_18 rfl ?_
      refine AF.iconst (0) dX9_addsStep_19 (by decide) ?_
      refine AF.bipush (20) dX9_addsStep_20 (by decide) ?_
      refine AF.s1 dX9_addsStep_22 kv_X9_57 ((X9_in_ok y 0 20)) rfl rfl (Nat.le_of_ble_eq_true rfl) (by decide) rfl ?_
      refine AF.if_eq 39 dX9_addsStep_25 (by decide) (fun c3 => ?_) (fun c3 => ?_)
      · have c3 := bI_z c3
        rw [show (if pStp σ x y z u = 4 then 3 else pStp σ x y z u) = 2 from by rw [show pStp σ x y z u = 2 from by rw [pStp, if_neg e1, if_pos (Or.inl (inB_f c3))]]; rfl]
        refine AF.iconst (2) dX9_addsStep_39 (by decide) ?_
        exact AF.ireturn dX9_addsStep_40 rfl (MD.no (by decide) hM0 hfr)
      · have c3 := bI_n c3
        refine AF.iload dX9_addsStep_28 rfl ?_
        refine AF.iconst (0) dX9_addsStep_30 (by decide) ?_
        refine AF.bipush (10) dX9_addsStep_31 (by decide) ?_
        refine AF.s1 dX9_addsStep_33 kv_X9_57 ((X9_in_ok u 0 10)) rfl rfl (Nat.le_of_ble_eq_true rfl) (by decide) rfl ?_
        refine AF.if_ne 41 dX9_addsStep_36 (by decide) (fun c4 => ?_) (fun c4 => ?_)
        · have c4 := bI_n c4
          have e2 : ¬ ((y < 0 ∨ 20 < y) ∨ (u < 0 ∨ 10 < u)) := by rintro ((q | q) | (q | q)); exact (inB_t c3).1 q; exact (inB_t c3).2 q; exact (inB_t c4).1 q; exact (inB_t c4).2 q
          obtain ⟨i, hi, rfl⟩ := hasB_nI (by omega) c1
          obtain ⟨y, hy, rfl⟩ := inB_nI (n := 20) (by omega) c3
          obtain ⟨z, hz, rfl⟩ := hasB_nI (by omega) c2
          obtain ⟨u, hu, rfl⟩ := inB_nI (n := 10) (by omega) c4
          obtain ⟨h8, hsc, hrow⟩ := hS.2.2.1.2 i hi
          refine AF.aload_n dX9_addsStep_41 rfl ?_
          refine AF.iload_n dX9_addsStep_42 rfl ?_
          refine AF.v1 dX9_addsStep_43 kv_X9_77 ((hV i (by omega))) (by assumption) rfl rfl rfl (Nat.le_of_ble_eq_true rfl) (by decide) rfl ?_
          rw [hsc]
          refine AF.istore dX9_addsStep_46 (by decide) ?_
          refine AF.iload dX9_addsStep_48 rfl ?_
          refine AF.bipush (nI 8) dX9_addsStep_50 (by decide) ?_
          refine AF.icmp_ne 57 dX9_addsStep_52 (by decide) (fun c5 => ?_) (fun c5 => ?_)
          · rw [nI_eq (by omega) (by omega)] at c5
            rw [show (if pStp σ (nI i) (nI y) (nI z) (nI u) = 4 then 3 else pStp σ (nI i) (nI y) (nI z) (nI u)) = 0 from by rw [show pStp σ (nI i) (nI y) (nI z) (nI u) = 0 from by rw [pStp, if_neg e1, if_neg e2, nI_clamp (by omega), if_pos (by omega)]]; rfl]
            rw [cl_nI (by omega)]
            refine AF.bipush (nI 28) dX9_addsStep_57 (by decide) ?_
            refine AF.bipush (nI 25) dX9_addsStep_59 (by decide) ?_
            refine AF.iload_n dX9_addsStep_61 rfl ?_
            refine AF.imul dX9_addsStep_62 ?_
            rw [pk_mul]
            refine AF.iadd dX9_addsStep_63 ?_
            rw [nI_add]
            refine AF.iconst (nI 1) dX9_addsStep_64 (by decide) ?_
            refine AF.iadd dX9_addsStep_65 ?_
            rw [nI_add]
            refine AF.iconst (nI 3) dX9_addsStep_66 (by decide) ?_
            refine AF.iload dX9_addsStep_67 rfl ?_
            refine AF.imul dX9_addsStep_69 ?_
            rw [pk_mul]
            refine AF.iadd dX9_addsStep_70 ?_
            rw [nI_add]
            refine AF.istore dX9_addsStep_71 (by decide) ?_
            refine AF.aload_n dX9_addsStep_73 rfl ?_
            refine AF.getfield dX9_addsStep_74 fl_X9_7 (by assumption) rfl ?_
            refine AF.iload dX9_addsStep_77 rfl ?_
            refine AF.iload_n dX9_addsStep_79 rfl ?_
            refine AF.iastoreF (28 + 25 * i + 1 + 3 * (fg σ.Fg i).length) dX9_addsStep_80 h1 (by omega) (by first | rfl | exact nI_1 _ | (simp only [nI_add, pk_mul, nI_1]; exact congrArg nI (by omega)) | simp only [nI_add, pk_mul, nI_1]) (by omega) (by decide) ?_
            intro F e9 h9 o9
            replace h0 := (o9 (m) (by omega)).trans h0
            replace hR := hR.kept (fun q h1 h2 => o9 q (by omega))
            replace h1 := h9
            replace hfr := hfr.step e9 (by omega) (by omega) o9
            clear e9 h9 o9
            refine AF.aload_n dX9_addsStep_81 rfl ?_
            refine AF.getfield dX9_addsStep_82 fl_X9_7 (by assumption) rfl ?_
            refine AF.iload dX9_addsStep_85 rfl ?_
            refine AF.iconst (nI 1) dX9_addsStep_87 (by decide) ?_
            refine AF.iadd dX9_addsStep_88 ?_
            refine AF.iload_n dX9_addsStep_89 rfl ?_
            refine AF.iastoreF (28 + 25 * i + 1 + 3 * (fg σ.Fg i).length + 1) dX9_addsStep_90 h1 (by omega) (by first | rfl | exact nI_1 _ | (simp only [nI_add, pk_mul, nI_1]; exact congrArg nI (by omega)) | simp only [nI_add, pk_mul, nI_1]) (by omega) (by decide) ?_
            intro F e9 h9 o9
            replace h0 := (o9 (m) (by omega)).trans h0
            replace hR := hR.kept (fun q h1 h2 => o9 q (by omega))
            replace h1 := h9
            replace hfr := hfr.step e9 (by omega) (by omega) o9
            clear e9 h9 o9
            refine AF.aload_n dX9_addsStep_91 rfl ?_
            refine AF.getfield dX9_addsStep_92 fl_X9_7 (by assumption) rfl ?_
            refine AF.iload dX9_addsStep_95 rfl ?_
            refine AF.iconst (nI 2) dX9_addsStep_97 (by decide) ?_
            refine AF.iadd dX9_addsStep_98 ?_
            refine AF.iload dX9_addsStep_99 rfl ?_
            refine AF.iastoreF (28 + 25 * i + 1 + 3 * (fg σ.Fg i).length + 2) dX9_addsStep_101 h1 (by omega) (by first | rfl | exact nI_1 _ | (simp only [nI_add, pk_mul, nI_1]; exact congrArg nI (by omega)) | simp only [nI_add, pk_mul, nI_1]) (by omega) (by decide) ?_
            intro F e9 h9 o9
            replace h0 := (o9 (m) (by omega)).trans h0
            replace hR := hR.kept (fun q h1 h2 => o9 q (by omega))
            replace h1 := h9
            replace hfr := hfr.step e9 (by omega) (by omega) o9
            clear e9 h9 o9
            refine AF.aload_n dX9_addsStep_102 rfl ?_
            refine AF.getfield dX9_addsStep_103 fl_X9_7 (by assumption) rfl ?_
            refine AF.bipush (nI 28) dX9_addsStep_106 (by decide) ?_
            refine AF.bipush (nI 25) dX9_addsStep_108 (by decide) ?_
            refine AF.iload_n dX9_addsStep_110 rfl ?_
            refine AF.imul dX9_addsStep_111 ?_
            rw [pk_mul]
            refine AF.iadd dX9_addsStep_112 ?_
            rw [nI_add]
            refine AF.iload dX9_addsStep_113 rfl ?_
            refine AF.iconst (nI 1) dX9_addsStep_115 (by decide) ?_
            refine AF.iadd dX9_addsStep_116 ?_
            rw [nI_add]
            refine AF.iastoreF (28 + 25 * i) dX9_addsStep_117 h1 (by omega) (by first | rfl | exact nI_1 _ | (simp only [nI_add, pk_mul, nI_1]; exact congrArg nI (by omega)) | simp only [nI_add, pk_mul, nI_1]) (by omega) (by decide) ?_
            intro F e9 h9 o9
            replace h0 := (o9 (m) (by omega)).trans h0
            replace hR := hR.kept (fun q h1 h2 => o9 q (by omega))
            replace h1 := h9
            replace hfr := hfr.step e9 (by omega) (by omega) o9
            clear e9 h9 o9
            refine AF.aload_n dX9_addsStep_118 rfl ?_
            refine AF.iload dX9_addsStep_119 rfl ?_
            refine AF.iconst (nI 1) dX9_addsStep_121 (by decide) ?_
            refine AF.iadd dX9_addsStep_122 ?_
            rw [nI_add]
            refine AF.vw dX9_addsStep_123 kv_X9_87 (X9_done_ok ⟨h0, h1, hR⟩ ha (nI ((fg σ.Fg i).length + 1))) (by assumption) rfl rfl rfl (Nat.le_of_ble_eq_true rfl) (by decide) rfl (fun E F9 q => nomatch q.1) (fun v F q => ?_)
            obtain ⟨q, hM, q2⟩ := q
            cases q
            refine AF.ireturn dX9_addsStep_126 rfl (MD.yes ?_ hM (hfr.trans q2 (Nat.le_refl _) (Nat.le_refl _)))
            unfold aStp
            rw [cl_nI (by omega), cl_nI (by omega), cl_nI (by omega), cl_nI (by omega)]
            refine hS.figs (hS.2.2.1.row hi (by rw [List.length_append, List.length_singleton]; omega) (by rw [upd_s, List.length_append]; rfl) (fun k hk => ?_) (fun q q1 q2 q3 => by rw [upd_n (by omega), upd_n (by omega), upd_n (by omega), upd_n (by omega)])) (List.length_set ..) (fun q hq => by rw [upd_n (by omega), upd_n (by omega), upd_n (by omega), upd_n (by omega)])
            rw [List.length_append, List.length_singleton] at hk
            rw [g3, gd_app]
            by_cases e : k = (fg σ.Fg i).length
            · subst e
              rw [if_pos rfl]
              refine ⟨?_, ?_, ?_⟩
              · rw [upd_n (by omega), upd_n (by omega), upd_n (by omega), upd_s]
              · rw [upd_n (by omega), upd_n (by omega), upd_s]
              · rw [upd_n (by omega), upd_s]
            · rw [if_neg e]
              have := hrow k (by omega)
              refine ⟨?_, ?_, ?_⟩
              · rw [upd_n (by omega), upd_n (by omega), upd_n (by omega), upd_n (by omega)]; exact this.1
              · rw [upd_n (by omega), upd_n (by omega), upd_n (by omega), upd_n (by omega)]; exact this.2.1
              · rw [upd_n (by omega), upd_n (by omega), upd_n (by omega), upd_n (by omega)]; exact this.2.2
          · rw [nI_eq (by omega) (by omega)] at c5
            rw [show (if pStp σ (nI i) (nI y) (nI z) (nI u) = 4 then 3 else pStp σ (nI i) (nI y) (nI z) (nI u)) = 3 from by rw [show pStp σ (nI i) (nI y) (nI z) (nI u) = 4 from by rw [pStp, if_neg e1, if_neg e2, nI_clamp (by omega), if_neg (by omega)]]; rfl]
            refine AF.iconst (3) dX9_addsStep_55 (by decide) ?_
            exact AF.ireturn dX9_addsStep_56 rfl (MD.no (by decide) hM0 hfr)
        · have c4 := bI_z c4
          rw [show (if pStp σ x y z u = 4 then 3 else pStp σ x y z u) = 2 from by rw [show pStp σ x y z u = 2 from by rw [pStp, if_neg e1, if_pos (Or.inr (inB_f c4))]]; rfl]
          refine AF.iconst (2) dX9_addsStep_39 (by decide) ?_
          exact AF.ireturn dX9_addsStep_40 rfl (MD.no (by decide) hM0 hfr)
    · have c2 := bI_z c2
      rw [show (if pStp σ x y z u = 4 then 3 else pStp σ x y z u) = 1 from by rw [show pStp σ x y z u = 1 from by rw [pStp, if_pos (Or.inr c2)]]; rfl]
      refine AF.iconst (1) dX9_addsStep_16 (by decide) ?_
      exact AF.ireturn dX9_addsStep_17 rfl (MD.no (by decide) hM0 hfr)
set_option maxRecDepth 100000 in
theorem X9_removesStep_ok (hM : MA G F m g f A) (ha : gN G ≤ m) (hS : SR σ f) (x y : Int32) : AC G mX9_removesStep 3 0 0 [.ref m, .int x, .int y] F (MD G m (aRmS σ x y) g f A (if hsB σ.Fg x y = true then 0 else 1) (nI ((fg σ.Fg (cl x)).length - 1)) F) := by
  have hT := X9_isStep_ok hM hS x y
  have h5 := hS.2.2.1.1
  have hM0 := hM
  obtain ⟨h0, h1, hR⟩ := hM
  refine AC.of [some (.ref m), some (.int x), some (.int y)] rfl (by decide) (Nat.le_of_ble_eq_true rfl) rfl ?_
  have hfr : Fr m (m + 9) F F := Fr.rf
  refine AF.aload_n dX9_removesStep_0 rfl ?_
  refine AF.iload_n dX9_removesStep_1 rfl ?_
  refine AF.iload_n dX9_removesStep_2 rfl ?_
  refine AF.v1 dX9_removesStep_3 kv_X9_104 (hT) (by assumption) rfl rfl rfl (Nat.le_of_ble_eq_true rfl) (by decide) rfl ?_
  refine AF.if_ne 11 dX9_removesStep_6 (by decide) (fun c1 => ?_) (fun c1 => ?_)
  · have c1 := bI_n c1
    rw [if_pos c1]
    have c2 := c1
    unfold hsB at c2
    rw [Bool.and_eq_true] at c2
    obtain ⟨i, hi, rfl⟩ := hasB_nI (by omega) c2.1
    have h8 := (hS.2.2.1.2 i hi).1
    rw [nI_clamp (by omega)] at c2
    obtain ⟨k, hk, rfl⟩ := hasB_nI (by omega) c2.2
    rw [cl_nI (by omega)]
    refine AF.aload_n dX9_removesStep_11 rfl ?_
    refine AF.iload_n dX9_removesStep_12 rfl ?_
    refine AF.iload_n dX9_removesStep_13 rfl ?_
    refine AF.vw dX9_removesStep_14 kv_X9_94 (X9_cuts_ok hM0 ha hS.2.2.1 i k hi hk) (by assumption) rfl rfl rfl (Nat.le_of_ble_eq_true rfl) (by decide) rfl (fun E F9 q => nomatch q.1) (fun v F q => ?_)
    obtain ⟨q, f', hG, hq, hM, q2⟩ := q
    cases q
    have hM1 := hM
    obtain ⟨h0, h1, hR⟩ := hM
    have hlen : ((fg σ.Fg i).eraseIdx k).length = (fg σ.Fg i).length - 1 := List.length_eraseIdx_of_lt hk
    have hs := hG.2 i (by rw [List.length_set]; exact hi)
    rw [fg, gd_set, if_pos ⟨rfl, hi⟩, hlen] at hs
    have hV := X9_steps_ok hM1 i (by omega)
    rw [hs.2.1] at hV
    refine AF.aload_n dX9_removesStep_17 rfl ?_
    refine AF.aload_n dX9_removesStep_18 rfl ?_
    refine AF.iload_n dX9_removesStep_19 rfl ?_
    refine AF.v1 dX9_removesStep_20 kv_X9_77 (hV) (by assumption) rfl rfl rfl (Nat.le_of_ble_eq_true rfl) (by decide) rfl ?_
    refine AF.vw dX9_removesStep_23 kv_X9_87 (X9_done_ok hM1 ha (nI ((fg σ.Fg i).length - 1))) (by assumption) rfl rfl rfl (Nat.le_of_ble_eq_true rfl) (by decide) rfl (fun E F9 q => nomatch q.1) (fun v F q => ?_)
    obtain ⟨q, hM, q3⟩ := q
    cases q
    refine AF.ireturn dX9_removesStep_26 rfl (MD.yes ?_ hM ((hfr.trans q2 (Nat.le_refl _) (Nat.le_refl _)).trans q3 (Nat.le_refl _) (Nat.le_refl _)))
    unfold aRmS
    rw [cl_nI (by omega), cl_nI (by omega)]
    exact hS.figs hG (List.length_set ..) hq
  · have c1 := bI_z c1
    rw [if_neg (by rw [c1]; decide)]
    refine AF.iconst (1) dX9_removesStep_9 (by decide) ?_
    exact AF.ireturn dX9_removesStep_10 rfl (MD.no (by decide) hM0 hfr)
set_option maxRecDepth 100000 in
theorem X9_plays_ok (hM : MA G F m g f A) (ha : gN G ≤ m) (hS : SR σ f) (x y : Int32) : AC G mX9_plays 2 0 0 [.ref m, .int x, .int y] F (MD G m (aPly σ x y) g f A (if pPly σ x y = 4 then 3 else pPly σ x y) (nI (σ.bt + cl y)) F) := by
  have hT := X9_isFigure_ok hM hS x
  have h5 := hS.2.2.1.1
  have h6 := hS.2.2.2.1
  have hM0 := hM
  obtain ⟨h0, h1, hR⟩ := hM
  refine AC.of [some (.ref m), some (.int x), some (.int y), none] rfl (by decide) (Nat.le_of_ble_eq_true rfl) rfl ?_
  have hfr : Fr m (m + 9) F F := Fr.rf
  refine AF.aload_n dX9_plays_0 rfl ?_
  refine AF.iload_n dX9_plays_1 rfl ?_
  refine AF.v1 dX9_plays_2 kv_X9_101 (hT) (by assumption) rfl rfl rfl (Nat.le_of_ble_eq_true rfl) (by decide) rfl ?_
  refine AF.if_ne 10 dX9_plays_5 (by decide) (fun c1 => ?_) (fun c1 => ?_)
  · have c1 := bI_n c1
    have e1 : ¬ hasB σ.Fg.length x = false := by rw [c1]; decide
    refine AF.iload_n dX9_plays_10 rfl ?_
    refine AF.iconst (1) dX9_plays_11 (by decide) ?_
    refine AF.bipush (30) dX9_plays_12 (by decide) ?_
    refine AF.s1 dX9_plays_14 kv_X9_57 ((X9_in_ok y 1 30)) rfl rfl (Nat.le_of_ble_eq_true rfl) (by decide) rfl ?_
    refine AF.if_ne 22 dX9_plays_17 (by decide) (fun c2 => ?_) (fun c2 => ?_)
    · have c2 := bI_n c2
      have e2 : ¬ (y < 1 ∨ 30 < y) := by rintro (q | q); exact (inB_t c2).1 q; exact (inB_t c2).2 q
      obtain ⟨i, hi, rfl⟩ := hasB_nI (by omega) c1
      obtain ⟨-, hy, ey⟩ := rng1 (x := y) (n := 30) (by omega) (inB_t c2).1 (inB_t c2).2
      generalize cl y = t at hy ey ⊢
      subst ey
      refine AF.aload_n dX9_plays_22 rfl ?_
      refine AF.getfield dX9_plays_23 fl_X9_7 (by assumption) rfl ?_
      refine AF.iconst (nI 2) dX9_plays_26 (by decide) ?_
      refine AF.iaload (_) dX9_plays_27 (by assumption) rfl (by omega) (by decide) ?_
      rw [hS.1.2.2.1]
      refine AF.istore_n dX9_plays_28 (by decide) ?_
      refine AF.iload_n dX9_plays_29 rfl ?_
      refine AF.bipush (nI 6) dX9_plays_30 (by decide) ?_
      refine AF.icmp_ne 37 dX9_plays_32 (by decide) (fun c5 => ?_) (fun c5 => ?_)
      · rw [nI_eq (by omega) (by omega)] at c5
        rw [show (if pPly σ (nI i) (nI t) = 4 then 3 else pPly σ (nI i) (nI t)) = 0 from by rw [show pPly σ (nI i) (nI t) = 0 from by rw [pPly, if_neg e1, if_neg e2, if_pos (by omega)]]; rfl]
        refine AF.aload_n dX9_plays_37 rfl ?_
        refine AF.getfield dX9_plays_38 fl_X9_7 (by assumption) rfl ?_
        refine AF.sipush (nI 153) dX9_plays_41 (by decide) ?_
        refine AF.iconst (nI 2) dX9_plays_44 (by decide) ?_
        refine AF.iload_n dX9_plays_45 rfl ?_
        refine AF.imul dX9_plays_46 ?_
        refine AF.iadd dX9_plays_47 ?_
        refine AF.iload_n dX9_plays_48 rfl ?_
        refine AF.iastoreF (153 + 2 * σ.E.length) dX9_plays_49 h1 (by omega) (by first | rfl | exact nI_1 _ | (simp only [nI_add, pk_mul, nI_1]; exact congrArg nI (by omega)) | simp only [nI_add, pk_mul, nI_1]) (by omega) (by decide) ?_
        intro F e9 h9 o9
        replace h0 := (o9 (m) (by omega)).trans h0
        replace hR := hR.kept (fun q h1 h2 => o9 q (by omega))
        replace h1 := h9
        replace hfr := hfr.step e9 (by omega) (by omega) o9
        clear e9 h9 o9
        refine AF.aload_n dX9_plays_50 rfl ?_
        refine AF.getfield dX9_plays_51 fl_X9_7 (by assumption) rfl ?_
        refine AF.sipush (nI 153) dX9_plays_54 (by decide) ?_
        refine AF.iconst (nI 2) dX9_plays_57 (by decide) ?_
        refine AF.iload_n dX9_plays_58 rfl ?_
        refine AF.imul dX9_plays_59 ?_
        refine AF.iadd dX9_plays_60 ?_
        refine AF.iconst (nI 1) dX9_plays_61 (by decide) ?_
        refine AF.iadd dX9_plays_62 ?_
        refine AF.aload_n dX9_plays_63 rfl ?_
        refine AF.getfield dX9_plays_64 fl_X9_7 (by assumption) rfl ?_
        refine AF.iconst (nI 5) dX9_plays_67 (by decide) ?_
        refine AF.iaload (5) dX9_plays_68 (by assumption) (by first | rfl | exact nI_1 _ | (simp only [nI_add, pk_mul, nI_1]; exact congrArg nI (by omega)) | simp only [nI_add, pk_mul, nI_1]) (by omega) (by decide) ?_
        rw [upd_n (by omega), hS.1.2.2.2.2.2.1]
        refine AF.iload_n dX9_plays_69 rfl ?_
        refine AF.iadd dX9_plays_70 ?_
        rw [nI_add]
        refine AF.iastoreF (153 + 2 * σ.E.length + 1) dX9_plays_71 h1 (by omega) (by first | rfl | exact nI_1 _ | (simp only [nI_add, pk_mul, nI_1]; exact congrArg nI (by omega)) | simp only [nI_add, pk_mul, nI_1]) (by omega) (by decide) ?_
        intro F e9 h9 o9
        replace h0 := (o9 (m) (by omega)).trans h0
        replace hR := hR.kept (fun q h1 h2 => o9 q (by omega))
        replace h1 := h9
        replace hfr := hfr.step e9 (by omega) (by omega) o9
        clear e9 h9 o9
        refine AF.aload_n dX9_plays_72 rfl ?_
        refine AF.getfield dX9_plays_73 fl_X9_7 (by assumption) rfl ?_
        refine AF.iconst (nI 2) dX9_plays_76 (by decide) ?_
        refine AF.iload_n dX9_plays_77 rfl ?_
        refine AF.iconst (nI 1) dX9_plays_78 (by decide) ?_
        refine AF.iadd dX9_plays_79 ?_
        rw [nI_add]
        refine AF.iastoreF (2) dX9_plays_80 h1 (by omega) (by first | rfl | exact nI_1 _ | (simp only [nI_add, pk_mul, nI_1]; exact congrArg nI (by omega)) | simp only [nI_add, pk_mul, nI_1]) (by omega) (by decide) ?_
        intro F e9 h9 o9
        replace h0 := (o9 (m) (by omega)).trans h0
        replace hR := hR.kept (fun q h1 h2 => o9 q (by omega))
        replace h1 := h9
        replace hfr := hfr.step e9 (by omega) (by omega) o9
        clear e9 h9 o9
        refine AF.aload_n dX9_plays_81 rfl ?_
        refine AF.aload_n dX9_plays_82 rfl ?_
        refine AF.getfield dX9_plays_83 fl_X9_7 (by assumption) rfl ?_
        refine AF.iconst (nI 5) dX9_plays_86 (by decide) ?_
        refine AF.iaload (5) dX9_plays_87 (by assumption) (by first | rfl | exact nI_1 _ | (simp only [nI_add, pk_mul, nI_1]; exact congrArg nI (by omega)) | simp only [nI_add, pk_mul, nI_1]) (by omega) (by decide) ?_
        rw [upd_n (by omega), upd_n (by omega), upd_n (by omega), hS.1.2.2.2.2.2.1]
        refine AF.iload_n dX9_plays_88 rfl ?_
        refine AF.iadd dX9_plays_89 ?_
        rw [nI_add]
        refine AF.vw dX9_plays_90 kv_X9_87 (X9_done_ok ⟨h0, h1, hR⟩ ha (nI (σ.bt + t))) (by assumption) rfl rfl rfl (Nat.le_of_ble_eq_true rfl) (by decide) rfl (fun E F9 q => nomatch q.1) (fun v F q => ?_)
        obtain ⟨q, hM, q2⟩ := q
        cases q
        refine AF.ireturn dX9_plays_93 rfl (MD.yes ?_ hM (hfr.trans q2 (Nat.le_refl _) (Nat.le_refl _)))
        unfold aPly
        rw [cl_nI (by omega), cl_nI (by omega)]
        exact hS.ents ((hS.2.2.2.app (by omega)).kept (fun q h1 h2 => upd_n (by omega))) (by rw [upd_s, List.length_append]; rfl) (fun q h1 h2 => by rw [upd_n h2, upd_n (by omega), upd_n (by omega)])
      · rw [nI_eq (by omega) (by omega)] at c5
        rw [show (if pPly σ (nI i) (nI t) = 4 then 3 else pPly σ (nI i) (nI t)) = 3 from by rw [show pPly σ (nI i) (nI t) = 4 from by rw [pPly, if_neg e1, if_neg e2, if_neg (by omega)]]; rfl]
        refine AF.iconst (3) dX9_plays_35 (by decide) ?_
        exact AF.ireturn dX9_plays_36 rfl (MD.no (by decide) hM0 hfr)
    · have c2 := bI_z c2
      rw [show (if pPly σ x y = 4 then 3 else pPly σ x y) = 2 from by rw [show pPly σ x y = 2 from by rw [pPly, if_neg e1, if_pos (inB_f c2)]]; rfl]
      refine AF.iconst (2) dX9_plays_20 (by decide) ?_
      exact AF.ireturn dX9_plays_21 rfl (MD.no (by decide) hM0 hfr)
  · have c1 := bI_z c1
    rw [show (if pPly σ x y = 4 then 3 else pPly σ x y) = 1 from by rw [show pPly σ x y = 1 from by rw [pPly, if_pos c1]]; rfl]
    refine AF.iconst (1) dX9_plays_8 (by decide) ?_
    exact AF.ireturn dX9_plays_9 rfl (MD.no (by decide) hM0 hfr)
set_option maxRecDepth 100000 in
theorem X9_drops_ok (hM : MA G F m g f A) (ha : gN G ≤ m) (hS : SR σ f) (x : Nat) (hx : x < σ.E.length) : AC G mX9_drops 0 0 0 [.ref m, .int (nI x)] F (MS G m (σ.J, σ.cap, σ.w, σ.Fg, σ.E.eraseIdx x, σ.bt, σ.pum, σ.sht) g A none F) := by
  have h6 := hS.2.2.2.1
  have hlen : (σ.E.eraseIdx x).length = σ.E.length - 1 := List.length_eraseIdx_of_lt hx
  generalize hn : σ.E.length - 1 = n at *
  have hn1 : σ.E.length = n + 1 := by omega
  have hM0 := hM
  obtain ⟨h0, h1, hR⟩ := hM
  refine AC.of [some (.ref m), some (.int (nI x)), none, none] rfl (by decide) (Nat.le_of_ble_eq_true rfl) rfl ?_
  have hfr : Fr m (m + 9) F F := Fr.rf
  have sl : ∀ k j F1, j + k = 2 * n → 2 * x ≤ j → MA G F1 m g (shf f (153 + 2 * x) (153 + j) 2) A → Fr m (m + 9) F F1 → AF G mX9_drops 0 0 0 (MS G m (σ.J, σ.cap, σ.w, σ.Fg, σ.E.eraseIdx x, σ.bt, σ.pum, σ.sht) g A none F) F1 13 [some (.ref m), some (.int (nI x)), some (.int (nI n)), some (.int (nI j))] [] := by
    intro k
    induction k with
    | zero =>
      intro j F1 hj hxj hM hfr
      obtain rfl : j = 2 * n := by omega
      obtain ⟨h0, h1, hR⟩ := hM
      refine AF.iload_n dX9_drops_13 rfl ?_
      refine AF.iconst (nI 2) dX9_drops_14 (by decide) ?_
      refine AF.iload_n dX9_drops_15 rfl ?_
      refine AF.imul dX9_drops_16 ?_
      rw [pk_mul]
      refine AF.icmp_ge 48 dX9_drops_17 (by decide) (fun hb => ?_) (fun hb => ?_)
      · refine AF.aload_n dX9_drops_48 rfl ?_
        refine AF.getfield dX9_drops_49 fl_X9_7 (by assumption) rfl ?_
        refine AF.sipush (nI 153) dX9_drops_52 (by decide) ?_
        refine AF.iconst (nI 2) dX9_drops_55 (by decide) ?_
        refine AF.iload_n dX9_drops_56 rfl ?_
        refine AF.imul dX9_drops_57 ?_
        refine AF.iadd dX9_drops_58 ?_
        refine AF.iconst (nI 0) dX9_drops_59 (by decide) ?_
        refine AF.iastoreF (153 + 2 * n) dX9_drops_60 h1 (by omega) (by first | rfl | exact nI_1 _ | (simp only [nI_add, pk_mul, nI_1]; exact congrArg nI (by omega)) | simp only [nI_add, pk_mul, nI_1]) (by omega) (by decide) ?_
        intro F e9 h9 o9
        replace h0 := (o9 (m) (by omega)).trans h0
        replace hR := hR.kept (fun q h1 h2 => o9 q (by omega))
        replace h1 := h9
        replace hfr := hfr.step e9 (by omega) (by omega) o9
        clear e9 h9 o9
        refine AF.aload_n dX9_drops_61 rfl ?_
        refine AF.getfield dX9_drops_62 fl_X9_7 (by assumption) rfl ?_
        refine AF.sipush (nI 153) dX9_drops_65 (by decide) ?_
        refine AF.iconst (nI 2) dX9_drops_68 (by decide) ?_
        refine AF.iload_n dX9_drops_69 rfl ?_
        refine AF.imul dX9_drops_70 ?_
        refine AF.iadd dX9_drops_71 ?_
        refine AF.iconst (nI 1) dX9_drops_72 (by decide) ?_
        refine AF.iadd dX9_drops_73 ?_
        refine AF.iconst (nI 0) dX9_drops_74 (by decide) ?_
        refine AF.iastoreF (153 + 2 * n + 1) dX9_drops_75 h1 (by omega) (by first | rfl | exact nI_1 _ | (simp only [nI_add, pk_mul, nI_1]; exact congrArg nI (by omega)) | simp only [nI_add, pk_mul, nI_1]) (by omega) (by decide) ?_
        intro F e9 h9 o9
        replace h0 := (o9 (m) (by omega)).trans h0
        replace hR := hR.kept (fun q h1 h2 => o9 q (by omega))
        replace h1 := h9
        replace hfr := hfr.step e9 (by omega) (by omega) o9
        clear e9 h9 o9
        refine AF.aload_n dX9_drops_76 rfl ?_
        refine AF.getfield dX9_drops_77 fl_X9_7 (by assumption) rfl ?_
        refine AF.iconst (nI 2) dX9_drops_80 (by decide) ?_
        refine AF.iload_n dX9_drops_81 rfl ?_
        refine AF.iastoreF (2) dX9_drops_82 h1 (by omega) (by first | rfl | exact nI_1 _ | (simp only [nI_add, pk_mul, nI_1]; exact congrArg nI (by omega)) | simp only [nI_add, pk_mul, nI_1]) (by omega) (by decide) ?_
        intro F e9 h9 o9
        replace h0 := (o9 (m) (by omega)).trans h0
        replace hR := hR.kept (fun q h1 h2 => o9 q (by omega))
        replace h1 := h9
        replace hfr := hfr.step e9 (by omega) (by omega) o9
        clear e9 h9 o9
        refine AF.vreturn dX9_drops_83 rfl ⟨rfl, _, hS.ents (hS.2.2.2.era hx (fun q q1 q2 => by rw [upd_n (by omega), upd_n (by omega), upd_n (by omega), shf_o (by omega)]) (fun q q1 q2 => by rw [upd_n (by omega), upd_n (by omega), upd_n (by omega), shf_i (by omega) (by omega)])) (by rw [upd_s, hlen]) (fun q q1 q2 => by rw [upd_n (by omega), upd_n (by omega), upd_n (by omega), shf_o (by omega)]), ⟨h0, h1, hR⟩, hfr⟩
      · exact absurd (Int32.le_refl _) hb
    | succ k ih =>
      intro j F1 hj hxj hM hfr
      obtain ⟨h0, h1, hR⟩ := hM
      refine AF.iload_n dX9_drops_13 rfl ?_
      refine AF.iconst (nI 2) dX9_drops_14 (by decide) ?_
      refine AF.iload_n dX9_drops_15 rfl ?_
      refine AF.imul dX9_drops_16 ?_
      rw [pk_mul]
      refine AF.icmp_ge 48 dX9_drops_17 (by decide) (fun hb => ?_) (fun hb => ?_)
      · rw [nI_leI (by omega) (by omega)] at hb
        omega
      · refine AF.aload_n dX9_drops_20 rfl ?_
        refine AF.getfield dX9_drops_21 fl_X9_7 (by assumption) rfl ?_
        refine AF.sipush (nI 153) dX9_drops_24 (by decide) ?_
        refine AF.iload_n dX9_drops_27 rfl ?_
        refine AF.iadd dX9_drops_28 ?_
        refine AF.aload_n dX9_drops_29 rfl ?_
        refine AF.getfield dX9_drops_30 fl_X9_7 (by assumption) rfl ?_
        refine AF.sipush (nI 153) dX9_drops_33 (by decide) ?_
        refine AF.iload_n dX9_drops_36 rfl ?_
        refine AF.iadd dX9_drops_37 ?_
        refine AF.iconst (nI 2) dX9_drops_38 (by decide) ?_
        refine AF.iadd dX9_drops_39 ?_
        refine AF.iaload (153 + j + 2) dX9_drops_40 (by assumption) (by first | rfl | exact nI_1 _ | (simp only [nI_add, pk_mul, nI_1]; exact congrArg nI (by omega)) | simp only [nI_add, pk_mul, nI_1]) (by omega) (by decide) ?_
        refine AF.iastoreF (153 + j) dX9_drops_41 h1 (by omega) (by first | rfl | exact nI_1 _ | (simp only [nI_add, pk_mul, nI_1]; exact congrArg nI (by omega)) | simp only [nI_add, pk_mul, nI_1]) (by omega) (by decide) ?_
        intro F e9 h9 o9
        replace h0 := (o9 (m) (by omega)).trans h0
        replace hR := hR.kept (fun q h1 h2 => o9 q (by omega))
        replace h1 := h9
        replace hfr := hfr.step e9 (by omega) (by omega) o9
        clear e9 h9 o9
        rw [shf_step (by omega)] at h1
        refine AF.inc1 dX9_drops_42 rfl (by decide) ?_
        refine AF.goto 13 dX9_drops_45 (by decide) ?_
        exact ih (j + 1) F (by omega) (by omega) ⟨h0, h1, hR⟩ hfr
  refine AF.aload_n dX9_drops_0 rfl ?_
  refine AF.getfield dX9_drops_1 fl_X9_7 (by assumption) rfl ?_
  refine AF.iconst (nI 2) dX9_drops_4 (by decide) ?_
  refine AF.iaload (_) dX9_drops_5 (by assumption) rfl (by omega) (by decide) ?_
  rw [hS.1.2.2.1, hn1]
  refine AF.iconst (nI 1) dX9_drops_6 (by decide) ?_
  refine AF.isub dX9_drops_7 ?_
  rw [show nI (n + 1) - nI 1 = nI n from nI_pred n]
  refine AF.istore_n dX9_drops_8 (by decide) ?_
  refine AF.iconst (nI 2) dX9_drops_9 (by decide) ?_
  refine AF.iload_n dX9_drops_10 rfl ?_
  refine AF.imul dX9_drops_11 ?_
  rw [pk_mul]
  refine AF.istore_n dX9_drops_12 (by decide) ?_
  exact sl (2 * n - 2 * x) (2 * x) F (by omega) (Nat.le_refl _) (by rw [shf_0]; exact hM0) hfr
set_option maxRecDepth 100000 in
theorem X9_cancels_ok (hM : MA G F m g f A) (ha : gN G ≤ m) (hS : SR σ f) (x : Int32) : AC G mX9_cancels 2 0 0 [.ref m, .int x] F (MD G m (aCan σ x) g f A (if hasB σ.E.length x = true then 0 else 1) (nI (en σ.E (cl x)).2) F) := by
  have hT := X9_isEntry_ok hM hS x
  have h6 := hS.2.2.2.1
  have hM0 := hM
  obtain ⟨h0, h1, hR⟩ := hM
  refine AC.of [some (.ref m), some (.int x), none] rfl (by decide) (Nat.le_of_ble_eq_true rfl) rfl ?_
  have hfr : Fr m (m + 9) F F := Fr.rf
  refine AF.aload_n dX9_cancels_0 rfl ?_
  refine AF.iload_n dX9_cancels_1 rfl ?_
  refine AF.v1 dX9_cancels_2 kv_X9_108 (hT) (by assumption) rfl rfl rfl (Nat.le_of_ble_eq_true rfl) (by decide) rfl ?_
  refine AF.if_ne 10 dX9_cancels_5 (by decide) (fun c1 => ?_) (fun c1 => ?_)
  · have c1 := bI_n c1
    rw [if_pos c1]
    obtain ⟨i, hi, rfl⟩ := hasB_nI (by omega) c1
    rw [cl_nI (by omega)]
    refine AF.aload_n dX9_cancels_10 rfl ?_
    refine AF.getfield dX9_cancels_11 fl_X9_7 (by assumption) rfl ?_
    refine AF.sipush (nI 153) dX9_cancels_14 (by decide) ?_
    refine AF.iconst (nI 2) dX9_cancels_17 (by decide) ?_
    refine AF.iload_n dX9_cancels_18 rfl ?_
    refine AF.imul dX9_cancels_19 ?_
    refine AF.iadd dX9_cancels_20 ?_
    refine AF.iconst (nI 1) dX9_cancels_21 (by decide) ?_
    refine AF.iadd dX9_cancels_22 ?_
    refine AF.iaload (153 + 2 * i + 1) dX9_cancels_23 (by assumption) (by first | rfl | exact nI_1 _ | (simp only [nI_add, pk_mul, nI_1]; exact congrArg nI (by omega)) | simp only [nI_add, pk_mul, nI_1]) (by omega) (by decide) ?_
    rw [(hS.2.2.2.2 i hi).2]
    refine AF.istore_n dX9_cancels_24 (by decide) ?_
    refine AF.aload_n dX9_cancels_25 rfl ?_
    refine AF.iload_n dX9_cancels_26 rfl ?_
    refine AF.vw dX9_cancels_27 kv_X9_111 (X9_drops_ok hM0 ha hS i hi) (by assumption) rfl rfl rfl (Nat.le_of_ble_eq_true rfl) (by decide) rfl (fun E F9 q => nomatch q.1) (fun v F q => ?_)
    obtain ⟨q, f', hS2, hM, q2⟩ := q
    cases q
    have hM1 := hM
    obtain ⟨h0, h1, hR⟩ := hM
    refine AF.aload_n dX9_cancels_30 rfl ?_
    refine AF.iload_n dX9_cancels_31 rfl ?_
    refine AF.vw dX9_cancels_32 kv_X9_87 (X9_done_ok hM1 ha (nI (en σ.E i).2)) (by assumption) rfl rfl rfl (Nat.le_of_ble_eq_true rfl) (by decide) rfl (fun E F9 q => nomatch q.1) (fun v F q => ?_)
    obtain ⟨q, hM, q3⟩ := q
    cases q
    refine AF.ireturn dX9_cancels_35 rfl (MD.yes ?_ hM ((hfr.trans q2 (Nat.le_refl _) (Nat.le_refl _)).trans q3 (Nat.le_refl _) (Nat.le_refl _)))
    unfold aCan
    rw [cl_nI (by omega)]
    exact hS2
  · have c1 := bI_z c1
    rw [if_neg (by rw [c1]; decide)]
    refine AF.iconst (1) dX9_cancels_8 (by decide) ?_
    exact AF.ireturn dX9_cancels_9 rfl (MD.no (by decide) hM0 hfr)
end

