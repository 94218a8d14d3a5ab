/-! Jets: the writing methods. -/
theorem upd_s {f : Nat → Int32} {k : Nat} {x : Int32} : upd f k x k = x := if_pos rfl
theorem upd_n {f : Nat → Int32} {k j : Nat} {x : Int32} (h : ¬ j = k) : upd f k x j = f j := if_neg h
theorem JR.setO {J : List Jt} {f g : Nat → Int32} {j o : Nat} (h : JR J f g) (hj : j < J.length) : JR (J.set j (jp J j, o)) f (upd g j (nI o)) := by
  refine ⟨by rw [List.length_set]; exact h.1, fun i hi => ?_⟩
  rw [List.length_set] at hi
  rw [jp_set, jo_set]
  by_cases e : i = j
  · subst e
    rw [if_pos ⟨rfl, hj⟩, if_pos ⟨rfl, hj⟩, upd_s]
    exact ⟨(h.2 i hi).1, rfl⟩
  · rw [if_neg (fun q => e q.1), if_neg (fun q => e q.1), upd_n e]
    exact h.2 i hi
theorem JR.app {J : List Jt} {f g : Nat → Int32} {p : Nat} (h : JR J f g) (hl : J.length < 10) : JR (J ++ [(p, 0)]) (upd f J.length (nI p)) (upd g J.length 0) := by
  refine ⟨by simp; omega, fun i hi => ?_⟩
  rw [List.length_append] at hi
  rw [jp_app, jo_app]
  by_cases e : i = J.length
  · subst e
    rw [if_pos rfl, if_pos rfl, upd_s, upd_s]
    exact ⟨rfl, nI_0.symm⟩
  · rw [if_neg e, if_neg e, upd_n e, upd_n e]
    exact h.2 i (by simp at hi; omega)
section
variable {G : GA} {F : AH} {a : Nat} {J : List Jt} {cap : Nat} {w : Int32}
set_option maxRecDepth 100000 in
theorem X3_changeCapacity_ok (hJ : JA G F a J cap w) (ha : gN G ≤ a) (x : Nat) : AC G mX3_changeCapacity 0 0 0 [.ref a, .int (nI x)] F (JW G a J x w (some (.int (nI cap))) F) := by
  obtain ⟨f, g, ⟨h0, h1, h2⟩, hr⟩ := hJ
  refine AC.of [some (.ref a), some (.int (nI x)), none] rfl (by decide) (Nat.le_of_ble_eq_true rfl) rfl ?_
  have hfr : Fr a (a + 3) F F := Fr.rf
  refine AF.aload_n dX3_changeCapacity_0 rfl ?_
  refine AF.getfield dX3_changeCapacity_1 fl_X3_22 (by assumption) rfl ?_
  refine AF.istore_n dX3_changeCapacity_4 (by decide) ?_
  refine AF.aload_n dX3_changeCapacity_5 rfl ?_
  refine AF.iload_n dX3_changeCapacity_6 rfl ?_
  refine AF.putfieldF dX3_changeCapacity_7 fp_X3_22 h0 (by omega) (Nat.le_of_ble_eq_true rfl) rfl rfl (Or.inr fq_1_3) ?_
  intro F e9 h9 o9
  replace h1 := (o9 (a + 1) (by omega)).trans h1
  replace h2 := (o9 (a + 2) (by omega)).trans h2
  replace h0 := h9
  replace hfr := hfr.step e9 (by omega) (by omega) o9
  clear e9 h9 o9
  refine AF.iload_n dX3_changeCapacity_10 rfl ?_
  exact AF.ireturn dX3_changeCapacity_11 rfl ⟨rfl, ⟨f, g, ⟨h0, h1, h2⟩, hr⟩, hfr⟩
set_option maxRecDepth 100000 in
theorem X3_changeWind_ok (hJ : JA G F a J cap w) (ha : gN G ≤ a) (x : Int32) : AC G mX3_changeWind 0 0 0 [.ref a, .int x] F (JW G a J cap x (some (.int w)) F) := by
  obtain ⟨f, g, ⟨h0, h1, h2⟩, hr⟩ := hJ
  refine AC.of [some (.ref a), some (.int x), none] rfl (by decide) (Nat.le_of_ble_eq_true rfl) rfl ?_
  have hfr : Fr a (a + 3) F F := Fr.rf
  refine AF.aload_n dX3_changeWind_0 rfl ?_
  refine AF.getfield dX3_changeWind_1 fl_X3_25 (by assumption) rfl ?_
  refine AF.istore_n dX3_changeWind_4 (by decide) ?_
  refine AF.aload_n dX3_changeWind_5 rfl ?_
  refine AF.iload_n dX3_changeWind_6 rfl ?_
  refine AF.putfieldF dX3_changeWind_7 fp_X3_25 h0 (by omega) (Nat.le_of_ble_eq_true rfl) rfl rfl (Or.inr fq_1_4) ?_
  intro F e9 h9 o9
  replace h1 := (o9 (a + 1) (by omega)).trans h1
  replace h2 := (o9 (a + 2) (by omega)).trans h2
  replace h0 := h9
  replace hfr := hfr.step e9 (by omega) (by omega) o9
  clear e9 h9 o9
  refine AF.iload_n dX3_changeWind_10 rfl ?_
  exact AF.ireturn dX3_changeWind_11 rfl ⟨rfl, ⟨f, g, ⟨h0, h1, h2⟩, hr⟩, hfr⟩
set_option maxRecDepth 100000 in
theorem X3_changeOpening_ok (hJ : JA G F a J cap w) (ha : gN G ≤ a) (j o : Nat) (hj : j < J.length) : AC G mX3_changeOpening 0 0 0 [.ref a, .int (nI j), .int (nI o)] F (JW G a (J.set j (jp J j, o)) cap w (some (.int (nI (jo J j)))) F) := by
  obtain ⟨f, g, ⟨h0, h1, h2⟩, hr⟩ := hJ
  have hn := hr.1
  refine AC.of [some (.ref a), some (.int (nI j)), some (.int (nI o)), none] rfl (by decide) (Nat.le_of_ble_eq_true rfl) rfl ?_
  have hfr : Fr a (a + 3) F F := Fr.rf
  refine AF.aload_n dX3_changeOpening_0 rfl ?_
  refine AF.getfield dX3_changeOpening_1 fl_X3_15 (by assumption) rfl ?_
  refine AF.iload_n dX3_changeOpening_4 rfl ?_
  refine AF.iaload (_) dX3_changeOpening_5 (by assumption) rfl (by omega) (by decide) ?_
  rw [(hr.2 j hj).2]
  refine AF.istore_n dX3_changeOpening_6 (by decide) ?_
  refine AF.aload_n dX3_changeOpening_7 rfl ?_
  refine AF.getfield dX3_changeOpening_8 fl_X3_15 (by assumption) rfl ?_
  refine AF.iload_n dX3_changeOpening_11 rfl ?_
  refine AF.iload_n dX3_changeOpening_12 rfl ?_
  refine AF.iastoreF (_) dX3_changeOpening_13 h2 (by omega) rfl (by omega) (by decide) ?_
  intro F e9 h9 o9
  replace h0 := (o9 (a) (by omega)).trans h0
  replace h1 := (o9 (a + 1) (by omega)).trans h1
  replace h2 := h9
  replace hfr := hfr.step e9 (by omega) (by omega) o9
  clear e9 h9 o9
  refine AF.iload_n dX3_changeOpening_14 rfl ?_
  exact AF.ireturn dX3_changeOpening_15 rfl ⟨rfl, ⟨f, _, ⟨by rw [List.length_set]; exact h0, h1, h2⟩, hr.setO hj⟩, hfr⟩
set_option maxRecDepth 100000 in
theorem X3_append_ok (hJ : JA G F a J cap w) (ha : gN G ≤ a) (p : Nat) (hl : J.length < 10) : AC G mX3_append 0 0 0 [.ref a, .int (nI p)] F (JW G a (J ++ [(p, 0)]) cap w (some (.int (nI J.length))) F) := by
  obtain ⟨f, g, ⟨h0, h1, h2⟩, hr⟩ := hJ
  refine AC.of [some (.ref a), some (.int (nI p))] rfl (by decide) (Nat.le_of_ble_eq_true rfl) rfl ?_
  have hfr : Fr a (a + 3) F F := Fr.rf
  refine AF.aload_n dX3_append_0 rfl ?_
  refine AF.getfield dX3_append_1 fl_X3_9 (by assumption) rfl ?_
  refine AF.aload_n dX3_append_4 rfl ?_
  refine AF.getfield dX3_append_5 fl_X3_18 (by assumption) rfl ?_
  refine AF.iload_n dX3_append_8 rfl ?_
  refine AF.iastoreF (_) dX3_append_9 h1 (by omega) rfl (by omega) (by decide) ?_
  intro F e9 h9 o9
  replace h0 := (o9 (a) (by omega)).trans h0
  replace h2 := (o9 (a + 2) (by omega)).trans h2
  replace h1 := h9
  replace hfr := hfr.step e9 (by omega) (by omega) o9
  clear e9 h9 o9
  refine AF.aload_n dX3_append_10 rfl ?_
  refine AF.getfield dX3_append_11 fl_X3_15 (by assumption) rfl ?_
  refine AF.aload_n dX3_append_14 rfl ?_
  refine AF.getfield dX3_append_15 fl_X3_18 (by assumption) rfl ?_
  refine AF.iconst (0) dX3_append_18 (by decide) ?_
  refine AF.iastoreF (_) dX3_append_19 h2 (by omega) rfl (by omega) (by decide) ?_
  intro F e9 h9 o9
  replace h0 := (o9 (a) (by omega)).trans h0
  replace h1 := (o9 (a + 1) (by omega)).trans h1
  replace h2 := h9
  replace hfr := hfr.step e9 (by omega) (by omega) o9
  clear e9 h9 o9
  refine AF.aload_n dX3_append_20 rfl ?_
  refine AF.dup dX3_append_21 rfl ?_
  refine AF.getfield dX3_append_22 fl_X3_18 (by assumption) rfl ?_
  refine AF.iconst (1) dX3_append_25 (by decide) ?_
  refine AF.iadd dX3_append_26 ?_
  have e5 : (J ++ [(p, 0)]).length = J.length + 1 := by simp
  rw [show nI J.length + 1 = nI (J ++ [(p, 0)]).length by rw [nI_1, e5]]
  refine AF.putfieldF dX3_append_27 fp_X3_18 h0 (by omega) (Nat.le_of_ble_eq_true rfl) rfl rfl (Or.inr fq_1_2) ?_
  intro F e9 h9 o9
  replace h1 := (o9 (a + 1) (by omega)).trans h1
  replace h2 := (o9 (a + 2) (by omega)).trans h2
  replace h0 := h9
  replace hfr := hfr.step e9 (by omega) (by omega) o9
  clear e9 h9 o9
  refine AF.aload_n dX3_append_30 rfl ?_
  refine AF.getfield dX3_append_31 fl_X3_18 (by assumption) rfl ?_
  refine AF.iconst (1) dX3_append_34 (by decide) ?_
  refine AF.isub dX3_append_35 ?_
  exact AF.ireturn dX3_append_36 rfl ⟨by rw [e5, nI_pred], ⟨_, _, ⟨h0, h1, h2⟩, hr.app hl⟩, hfr⟩
set_option maxRecDepth 100000 in
theorem X3_drop_ok (hJ : JA G F a J cap w) (ha : gN G ≤ a) (x : Nat) (hx : x < J.length) : AC G mX3_drop 0 0 0 [.ref a, .int (nI x)] F (JW G a (J.eraseIdx x) cap w none F) := by
  obtain ⟨f, g, ⟨h0, h1, h2⟩, hr⟩ := hJ
  have hn := hr.1
  have hlen : (J.eraseIdx x).length = J.length - 1 := List.length_eraseIdx_of_lt hx
  refine AC.of [some (.ref a), some (.int (nI x)), none] rfl (by decide) (Nat.le_of_ble_eq_true rfl) rfl ?_
  have hfr : Fr a (a + 3) F F := Fr.rf
  have loop : ∀ k j F1 f' g', j + k = J.length - 1 → x ≤ j → F1.2 a = some (.inr (1, [.ref (a + 1), .ref (a + 2), .int (nI (J.length - 1)), .int (nI cap), .int w])) → F1.2 (a + 1) = some (.inl (gC G 0, 10, .inl f')) → F1.2 (a + 2) = some (.inl (gC G 0, 10, .inl g')) → Fr a (a + 3) F F1 → (∀ i, i < j → f' i = nI (jp (J.eraseIdx x) i) ∧ g' i = nI (jo (J.eraseIdx x) i)) → (∀ i, j ≤ i → f' i = f i ∧ g' i = g i) → AF G mX3_drop 0 0 0 (JW G a (J.eraseIdx x) cap w none F) F1 12 [some (.ref a), some (.int (nI x)), some (.int (nI j))] [] := by
    intro k
    induction k with
    | zero =>
      intro j F f' g' hj hxj h0 h1 h2 hfr ha1 ha2
      refine AF.iload_n dX3_drop_12 rfl ?_
      refine AF.aload_n dX3_drop_13 rfl ?_
      refine AF.getfield dX3_drop_14 fl_X3_18 (by assumption) rfl ?_
      refine AF.icmp_ge 54 dX3_drop_17 (by decide) (fun hb => ?_) (fun hb => ?_)
      · exact AF.vreturn dX3_drop_54 rfl ⟨rfl, ⟨f', g', ⟨by rw [hlen]; exact h0, h1, h2⟩, by rw [hlen]; omega, fun i hi => ha1 i (by omega)⟩, hfr⟩
      · exact absurd (by rw [nI_leI (by omega) (by omega)]; omega) hb
    | succ k ih =>
      intro j F f' g' hj hxj h0 h1 h2 hfr ha1 ha2
      refine AF.iload_n dX3_drop_12 rfl ?_
      refine AF.aload_n dX3_drop_13 rfl ?_
      refine AF.getfield dX3_drop_14 fl_X3_18 (by assumption) rfl ?_
      refine AF.icmp_ge 54 dX3_drop_17 (by decide) (fun hb => ?_) (fun hb => ?_)
      · rw [nI_leI (by omega) (by omega)] at hb
        omega
      · refine AF.aload_n dX3_drop_20 rfl ?_
        refine AF.getfield dX3_drop_21 fl_X3_9 (by assumption) rfl ?_
        refine AF.iload_n dX3_drop_24 rfl ?_
        refine AF.aload_n dX3_drop_25 rfl ?_
        refine AF.getfield dX3_drop_26 fl_X3_9 (by assumption) rfl ?_
        refine AF.iload_n dX3_drop_29 rfl ?_
        refine AF.iconst (nI 1) dX3_drop_30 (by decide) ?_
        refine AF.iadd dX3_drop_31 ?_
        refine AF.iaload (j + 1) dX3_drop_32 (by assumption) (by first | rfl | exact nI_1 _ | (simp only [nI_add, pk_mul, nI_1]; exact congrArg nI (by omega)) | simp only [nI_add, pk_mul, nI_1]) (by omega) (by decide) ?_
        refine AF.iastoreF (_) dX3_drop_33 h1 (by omega) rfl (by omega) (by decide) ?_
        intro F e9 h9 o9
        replace h0 := (o9 (a) (by omega)).trans h0
        replace h2 := (o9 (a + 2) (by omega)).trans h2
        replace h1 := h9
        replace hfr := hfr.step e9 (by omega) (by omega) o9
        clear e9 h9 o9
        refine AF.aload_n dX3_drop_34 rfl ?_
        refine AF.getfield dX3_drop_35 fl_X3_15 (by assumption) rfl ?_
        refine AF.iload_n dX3_drop_38 rfl ?_
        refine AF.aload_n dX3_drop_39 rfl ?_
        refine AF.getfield dX3_drop_40 fl_X3_15 (by assumption) rfl ?_
        refine AF.iload_n dX3_drop_43 rfl ?_
        refine AF.iconst (nI 1) dX3_drop_44 (by decide) ?_
        refine AF.iadd dX3_drop_45 ?_
        refine AF.iaload (j + 1) dX3_drop_46 (by assumption) (by first | rfl | exact nI_1 _ | (simp only [nI_add, pk_mul, nI_1]; exact congrArg nI (by omega)) | simp only [nI_add, pk_mul, nI_1]) (by omega) (by decide) ?_
        refine AF.iastoreF (_) dX3_drop_47 h2 (by omega) rfl (by omega) (by decide) ?_
        intro F e9 h9 o9
        replace h0 := (o9 (a) (by omega)).trans h0
        replace h1 := (o9 (a + 1) (by omega)).trans h1
        replace h2 := h9
        replace hfr := hfr.step e9 (by omega) (by omega) o9
        clear e9 h9 o9
        refine AF.inc1 dX3_drop_48 rfl (by decide) ?_
        refine AF.goto 12 dX3_drop_51 (by decide) ?_
        refine ih (j + 1) F _ _ (by omega) (by omega) h0 h1 h2 hfr (fun i hi => ?_) (fun i hi => ?_)
        · by_cases e : i = j
          · subst e
            rw [upd_s, upd_s, (ha2 (i + 1) (by omega)).1, (ha2 (i + 1) (by omega)).2, (hr.2 (i + 1) (by omega)).1, (hr.2 (i + 1) (by omega)).2, jp_era, jo_era, if_neg (by omega), if_neg (by omega)]
            exact ⟨rfl, rfl⟩
          · rw [upd_n e, upd_n e]
            exact ha1 i (by omega)
        · rw [upd_n (by omega), upd_n (by omega)]
          exact ha2 i (by omega)
  refine AF.aload_n dX3_drop_0 rfl ?_
  refine AF.dup dX3_drop_1 rfl ?_
  refine AF.getfield dX3_drop_2 fl_X3_18 (by assumption) rfl ?_
  refine AF.iconst (1) dX3_drop_5 (by decide) ?_
  refine AF.isub dX3_drop_6 ?_
  rw [show nI J.length - 1 = nI (J.length - 1) by rw [show J.length = J.length - 1 + 1 by omega, nI_pred]; rfl]
  refine AF.putfieldF dX3_drop_7 fp_X3_18 h0 (by omega) (Nat.le_of_ble_eq_true rfl) rfl rfl (Or.inr fq_1_2) ?_
  intro F e9 h9 o9
  replace h1 := (o9 (a + 1) (by omega)).trans h1
  replace h2 := (o9 (a + 2) (by omega)).trans h2
  replace h0 := h9
  replace hfr := hfr.step e9 (by omega) (by omega) o9
  clear e9 h9 o9
  refine AF.iload_n dX3_drop_10 rfl ?_
  refine AF.istore_n dX3_drop_11 (by decide) ?_
  refine loop (J.length - 1 - x) x F f g (by omega) (Nat.le_refl _) h0 h1 h2 hfr (fun i hi => ?_) (fun i _ => ⟨rfl, rfl⟩)
  rw [jp_era, jo_era, if_pos hi, if_pos hi]
  exact hr.2 i (by omega)
set_option maxRecDepth 100000 in
theorem X3_closeWildJets_ok (hJ : JA G F a J cap w) (ha : gN G ≤ a) (hI : JI J) (hcap : cap ≤ 100) : AC G mX3_closeWildJets 3 0 0 [.ref a] F (JW G a (trm cap w 100 J).2 cap w (some (.int (nI (trm cap w 100 J).1))) F) := by
  refine AC.of [some (.ref a), none, none] rfl (by decide) (Nat.le_of_ble_eq_true rfl) rfl ?_
  have loop : ∀ k c F1 J1 z, c + k = 100 → JA G F1 a J1 cap w → JI J1 → Fr a (a + 3) F F1 → AF G mX3_closeWildJets 3 0 0 (JW G a (trm cap w k J1).2 cap w (some (.int (nI (c + (trm cap w k J1).1)))) F) F1 2 [some (.ref a), some (.int (nI c)), z] [] := by
    intro k
    induction k with
    | zero =>
      intro c F J1 z hc hJ1 hI1 hfr
      refine AF.iload_n dX3_closeWildJets_2 rfl ?_
      refine AF.bipush (nI 100) dX3_closeWildJets_3 (by decide) ?_
      refine AF.icmp_ge 36 dX3_closeWildJets_5 (by decide) (fun hb => ?_) (fun hb => ?_)
      · refine AF.bipush (nI 100) dX3_closeWildJets_36 (by decide) ?_
        exact AF.ireturn dX3_closeWildJets_38 rfl ⟨by rw [show c + (trm cap w 0 J1).1 = 100 by simp only [trm]; omega], hJ1, hfr⟩
      · exact absurd (by rw [nI_leI (by omega) (by omega)]; omega) hb
    | succ k ih =>
      intro c F J1 z hc hJ1 hI1 hfr
      have hw := X3_findFirstWild_ok hJ1 hI1 hcap
      obtain ⟨f, g, ⟨h0, h1, h2⟩, hr⟩ := id hJ1
      have hn := hr.1
      refine AF.iload_n dX3_closeWildJets_2 rfl ?_
      refine AF.bipush (nI 100) dX3_closeWildJets_3 (by decide) ?_
      refine AF.icmp_ge 36 dX3_closeWildJets_5 (by decide) (fun hb => ?_) (fun hb => ?_)
      · rw [nI_leI (by omega) (by omega)] at hb
        omega
      · refine AF.aload_n dX3_closeWildJets_8 rfl ?_
        refine AF.v1 dX3_closeWildJets_9 kv_X3_78 (hw) (by assumption) rfl rfl rfl (Nat.le_of_ble_eq_true rfl) (by decide) rfl ?_
        cases hwf : wfst J1 cap w with
        | none =>
          dsimp only
          refine AF.istore_n dX3_closeWildJets_12 (by decide) ?_
          refine AF.iload_n dX3_closeWildJets_13 rfl ?_
          refine AF.iconst (-1) dX3_closeWildJets_14 (by decide) ?_
          refine AF.icmp_ne 20 dX3_closeWildJets_15 (by decide) (fun hb2 => ?_) (fun hb2 => ?_)
          · exact absurd rfl hb2
          · refine AF.iload_n dX3_closeWildJets_18 rfl ?_
            exact AF.ireturn dX3_closeWildJets_19 rfl ⟨by simp only [trm, hwf]; rfl, by simp only [trm, hwf]; exact hJ1, hfr⟩
        | some j =>
          obtain ⟨hj, hjw⟩ := fnd_spec hwf
          have hop := wild_open hI1 hjw
          dsimp only
          refine AF.istore_n dX3_closeWildJets_12 (by decide) ?_
          refine AF.iload_n dX3_closeWildJets_13 rfl ?_
          refine AF.iconst (-1) dX3_closeWildJets_14 (by decide) ?_
          refine AF.icmp_ne 20 dX3_closeWildJets_15 (by decide) (fun hb2 => ?_) (fun hb2 => ?_)
          · refine AF.aload_n dX3_closeWildJets_20 rfl ?_
            refine AF.getfield dX3_closeWildJets_21 fl_X3_15 (by assumption) rfl ?_
            refine AF.iload_n dX3_closeWildJets_24 rfl ?_
            refine AF.dup2 dX3_closeWildJets_25 rfl rfl ?_
            refine AF.iaload (_) dX3_closeWildJets_26 (by assumption) rfl (by omega) (by decide) ?_
            rw [(hr.2 j hj).2]
            refine AF.iconst (nI 1) dX3_closeWildJets_27 (by decide) ?_
            refine AF.isub dX3_closeWildJets_28 ?_
            rw [show nI (jo J1 j) - nI 1 = nI (jo J1 j - 1) from pk_sub hop]
            refine AF.iastoreF (_) dX3_closeWildJets_29 h2 (by omega) rfl (by omega) (by decide) ?_
            intro F e9 h9 o9
            replace h0 := (o9 (a) (by omega)).trans h0
            replace h1 := (o9 (a + 1) (by omega)).trans h1
            replace h2 := h9
            replace hfr := hfr.step e9 (by omega) (by omega) o9
            clear e9 h9 o9
            refine AF.inc1 dX3_closeWildJets_30 rfl (by decide) ?_
            refine AF.goto 2 dX3_closeWildJets_33 (by decide) ?_
            have h9 := ih (c + 1) F (dec1 J1 j) (some (.int (nI j))) (by omega) ⟨f, _, ⟨by rw [dec1_len]; exact h0, h1, h2⟩, hr.setO hj⟩ (JI_dec1 hI1) hfr
            simp only [trm, hwf]
            rw [show c + 1 + (trm cap w k (dec1 J1 j)).1 = c + ((trm cap w k (dec1 J1 j)).1 + 1) by omega] at h9
            exact h9
          · exact absurd hb2 (by rw [← Int32.toInt_inj, nI_toInt (by omega)]; show ¬ ((j : Int) = -1); omega)
  refine AF.iconst (nI 0) dX3_closeWildJets_0 (by decide) ?_
  refine AF.istore_n dX3_closeWildJets_1 (by decide) ?_
  have h9 := loop 100 0 F J none (by omega) hJ hI Fr.rf
  rw [Nat.zero_add] at h9
  exact h9
end
section
variable {G : GA} {F : AH} {a b : Nat} {J J0 : List Jt} {cap cap0 : Nat} {w w0 : Int32}
set_option maxRecDepth 100000 in
theorem X3_copyFrom_ok (hJ0 : JA G F a J0 cap0 w0) (hJ : JA G F b J cap w) (ha : gN G ≤ a) (hab : a + 3 ≤ b ∨ b + 3 ≤ a) : AC G mX3_copyFrom 1 0 0 [.ref a, .ref b] F (JW G a J cap w none F) := by
  obtain ⟨f0, g0', ⟨h0, h1, h2⟩, -⟩ := hJ0
  obtain ⟨f, g, ⟨g0, g1, g2⟩, hr⟩ := hJ
  refine AC.of [some (.ref a), some (.ref b)] rfl (by decide) (Nat.le_of_ble_eq_true rfl) rfl ?_
  have hfr : Fr a (a + 3) F F := Fr.rf
  refine AF.aload_n dX3_copyFrom_0 rfl ?_
  refine AF.getfield dX3_copyFrom_1 fl_X3_9 (by assumption) rfl ?_
  refine AF.iconst (nI 0) dX3_copyFrom_4 (by decide) ?_
  refine AF.aload_n dX3_copyFrom_5 rfl ?_
  refine AF.getfield dX3_copyFrom_6 fl_X3_9 (by assumption) rfl ?_
  refine AF.iconst (nI 0) dX3_copyFrom_9 (by decide) ?_
  refine AF.bipush (nI 10) dX3_copyFrom_10 (by decide) ?_
  refine AF.copyi dX3_copyFrom_12 ka_X3_28 g1 h1 (by omega) rfl rfl rfl (by omega) (by omega) (by decide) (by decide) (Nat.le_of_ble_eq_true rfl) (by decide) ?_
  intro F e9 h9 o9
  replace h0 := (o9 (a) (by omega)).trans h0
  replace h2 := (o9 (a + 2) (by omega)).trans h2
  replace g0 := (o9 (b) (by omega)).trans g0
  replace g1 := (o9 (b + 1) (by omega)).trans g1
  replace g2 := (o9 (b + 2) (by omega)).trans g2
  replace h1 := h9
  replace hfr := hfr.step e9 (by omega) (by omega) o9
  clear e9 h9 o9
  refine AF.aload_n dX3_copyFrom_15 rfl ?_
  refine AF.getfield dX3_copyFrom_16 fl_X3_15 (by assumption) rfl ?_
  refine AF.iconst (nI 0) dX3_copyFrom_19 (by decide) ?_
  refine AF.aload_n dX3_copyFrom_20 rfl ?_
  refine AF.getfield dX3_copyFrom_21 fl_X3_15 (by assumption) rfl ?_
  refine AF.iconst (nI 0) dX3_copyFrom_24 (by decide) ?_
  refine AF.bipush (nI 10) dX3_copyFrom_25 (by decide) ?_
  refine AF.copyi dX3_copyFrom_27 ka_X3_28 g2 h2 (by omega) rfl rfl rfl (by omega) (by omega) (by decide) (by decide) (Nat.le_of_ble_eq_true rfl) (by decide) ?_
  intro F e9 h9 o9
  replace h0 := (o9 (a) (by omega)).trans h0
  replace h1 := (o9 (a + 1) (by omega)).trans h1
  replace g0 := (o9 (b) (by omega)).trans g0
  replace g1 := (o9 (b + 1) (by omega)).trans g1
  replace g2 := (o9 (b + 2) (by omega)).trans g2
  replace h2 := h9
  replace hfr := hfr.step e9 (by omega) (by omega) o9
  clear e9 h9 o9
  refine AF.aload_n dX3_copyFrom_30 rfl ?_
  refine AF.aload_n dX3_copyFrom_31 rfl ?_
  refine AF.getfield dX3_copyFrom_32 fl_X3_18 (by assumption) rfl ?_
  refine AF.putfieldF dX3_copyFrom_35 fp_X3_18 h0 (by omega) (Nat.le_of_ble_eq_true rfl) rfl rfl (Or.inr fq_1_2) ?_
  intro F e9 h9 o9
  replace h1 := (o9 (a + 1) (by omega)).trans h1
  replace h2 := (o9 (a + 2) (by omega)).trans h2
  replace g0 := (o9 (b) (by omega)).trans g0
  replace g1 := (o9 (b + 1) (by omega)).trans g1
  replace g2 := (o9 (b + 2) (by omega)).trans g2
  replace h0 := h9
  replace hfr := hfr.step e9 (by omega) (by omega) o9
  clear e9 h9 o9
  refine AF.aload_n dX3_copyFrom_38 rfl ?_
  refine AF.aload_n dX3_copyFrom_39 rfl ?_
  refine AF.getfield dX3_copyFrom_40 fl_X3_22 (by assumption) rfl ?_
  refine AF.putfieldF dX3_copyFrom_43 fp_X3_22 h0 (by omega) (Nat.le_of_ble_eq_true rfl) rfl rfl (Or.inr fq_1_3) ?_
  intro F e9 h9 o9
  replace h1 := (o9 (a + 1) (by omega)).trans h1
  replace h2 := (o9 (a + 2) (by omega)).trans h2
  replace g0 := (o9 (b) (by omega)).trans g0
  replace g1 := (o9 (b + 1) (by omega)).trans g1
  replace g2 := (o9 (b + 2) (by omega)).trans g2
  replace h0 := h9
  replace hfr := hfr.step e9 (by omega) (by omega) o9
  clear e9 h9 o9
  refine AF.aload_n dX3_copyFrom_46 rfl ?_
  refine AF.aload_n dX3_copyFrom_47 rfl ?_
  refine AF.getfield dX3_copyFrom_48 fl_X3_25 (by assumption) rfl ?_
  refine AF.putfieldF dX3_copyFrom_51 fp_X3_25 h0 (by omega) (Nat.le_of_ble_eq_true rfl) rfl rfl (Or.inr fq_1_4) ?_
  intro F e9 h9 o9
  replace h1 := (o9 (a + 1) (by omega)).trans h1
  replace h2 := (o9 (a + 2) (by omega)).trans h2
  replace g0 := (o9 (b) (by omega)).trans g0
  replace g1 := (o9 (b + 1) (by omega)).trans g1
  replace g2 := (o9 (b + 2) (by omega)).trans g2
  replace h0 := h9
  replace hfr := hfr.step e9 (by omega) (by omega) o9
  clear e9 h9 o9
  exact AF.vreturn dX3_copyFrom_54 rfl ⟨rfl, ⟨_, _, ⟨h0, h1, h2⟩, hr.1, fun i hi => by rw [pk_cpy_in (by omega) (by have := hr.1; omega), pk_cpy_in (by omega) (by have := hr.1; omega)]; simpa using hr.2 i hi⟩, hfr⟩
end

