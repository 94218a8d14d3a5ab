/-! Figures: the methods that write. -/
def fgt (x : Nat) (L : List Sp) : List Sp := (L.filter (fun s => !decide (s.2.1 = x))).map (fun s => (s.1, (if x < s.2.1 then s.2.1 - 1 else s.2.1), s.2.2))
theorem fgt_le {x : Nat} {L : List Sp} : (fgt x L).length ≤ L.length := by
  rw [fgt, List.length_map]; exact List.length_filter_le _ _
theorem fg_mem {Fg : List (List Sp)} {i : Nat} (h : i < Fg.length) : fg Fg i ∈ Fg := by
  rw [fg, List.getD_eq_getElem?_getD, List.getElem?_eq_getElem h]; exact List.getElem_mem h
section
variable {G : GA} {F : AH} {a : Nat} {Fg : List (List Sp)}
set_option maxRecDepth 100000 in
theorem X2_drop_ok (hF : FA G F a Fg) (ha : gN G ≤ a) (x : Nat) (hx : x < Fg.length) : AC G mX2_drop 1 0 0 [.ref a, .int (nI x)] F (FW G a (Fg.eraseIdx x) (some (.int (nI (fg Fg x).length))) F) := by
  obtain ⟨sc, dl, jt, op, ⟨h0, h1, h2, h3, h4⟩, hr⟩ := hF
  have h5 := hr.1
  have hlen : (Fg.eraseIdx x).length = Fg.length - 1 := List.length_eraseIdx_of_lt hx
  refine AC.of [some (.ref a), some (.int (nI x)), none, none] rfl (by decide) (Nat.le_of_ble_eq_true rfl) rfl ?_
  have hfr : Fr a (a + 5) F F := Fr.rf
  have loop2 : ∀ k s F1 sc1 dl1 jt1 op1, s + k = (Fg.length - 1) * 8 → x * 8 ≤ s → FA0 G F1 a (Fg.length - 1) sc1 dl1 jt1 op1 → Fr a (a + 5) F F1 → (∀ i, i < Fg.length - 1 → sc1 i = nI (fg (Fg.eraseIdx x) i).length) → (∀ q, (q < x * 8 ∨ s ≤ q) → dl1 q = dl q ∧ jt1 q = jt q ∧ op1 q = op q) → (∀ q, x * 8 ≤ q → q < s → dl1 q = dl (q + 8) ∧ jt1 q = jt (q + 8) ∧ op1 q = op (q + 8)) → AF G mX2_drop 1 0 0 (FW G a (Fg.eraseIdx x) (some (.int (nI (fg Fg x).length))) F) F1 53 [some (.ref a), some (.int (nI x)), some (.int (nI (fg Fg x).length)), some (.int (nI s))] [] := by
    intro k
    induction k with
    | zero =>
      intro s F sc1 dl1 jt1 op1 hs hxs hF1 hfr hsc hk hm
      have hF0 := hF1
      obtain ⟨h0, h1, h2, h3, h4⟩ := hF1
      refine AF.iload_n dX2_drop_53 rfl ?_
      refine AF.aload_n dX2_drop_54 rfl ?_
      refine AF.getfield dX2_drop_55 fl_X2_24 (by assumption) rfl ?_
      refine AF.iconst (nI 0) dX2_drop_58 (by decide) ?_
      refine AF.sn1 dX2_drop_59 kn_X2_47 ((X8_slot_ok (Fg.length - 1) 0)) rfl rfl (Nat.le_of_ble_eq_true rfl) (by decide) rfl ?_
      refine AF.icmp_ge 80 dX2_drop_62 (by decide) (fun hb => ?_) (fun hb => ?_)
      · refine AF.iload_n dX2_drop_80 rfl ?_
        refine AF.ireturn dX2_drop_81 rfl ⟨rfl, ⟨sc1, dl1, jt1, op1, by rw [hlen]; exact hF0, by omega, fun i hi => ?_⟩, hfr⟩
        rw [hlen] at hi
        refine ⟨?_, hsc i hi, ?_⟩
        · rw [fg, gd_era]
          split
          · exact (hr.2 i (by omega)).1
          · exact (hr.2 (i + 1) (by omega)).1
        · intro j hj
          rw [fg, gd_era] at hj ⊢
          by_cases e : i < x
          · rw [if_pos e] at hj ⊢
            have q8 := (hr.2 i (by omega)).1
            have := hk (i * 8 + j) (by unfold fg at q8; omega)
            rw [this.1, this.2.1, this.2.2]
            exact (hr.2 i (by omega)).2.2 j hj
          · rw [if_neg e] at hj ⊢
            have q8 := (hr.2 (i + 1) (by omega)).1
            have := hm (i * 8 + j) (by omega) (by unfold fg at q8; omega)
            rw [this.1, this.2.1, this.2.2, show i * 8 + j + 8 = (i + 1) * 8 + j by omega]
            exact (hr.2 (i + 1) (by omega)).2.2 j hj
      · exact absurd (by rw [nI_leI (by omega) (by omega)]; omega) hb
    | succ k ih =>
      intro s F sc1 dl1 jt1 op1 hs hxs hF1 hfr hsc hk hm
      have hF0 := hF1
      obtain ⟨h0, h1, h2, h3, h4⟩ := hF1
      refine AF.iload_n dX2_drop_53 rfl ?_
      refine AF.aload_n dX2_drop_54 rfl ?_
      refine AF.getfield dX2_drop_55 fl_X2_24 (by assumption) rfl ?_
      refine AF.iconst (nI 0) dX2_drop_58 (by decide) ?_
      refine AF.sn1 dX2_drop_59 kn_X2_47 ((X8_slot_ok (Fg.length - 1) 0)) rfl rfl (Nat.le_of_ble_eq_true rfl) (by decide) rfl ?_
      refine AF.icmp_ge 80 dX2_drop_62 (by decide) (fun hb => ?_) (fun hb => ?_)
      · rw [nI_leI (by omega) (by omega)] at hb
        omega
      · refine AF.aload_n dX2_drop_65 rfl ?_
        refine AF.iload_n dX2_drop_66 rfl ?_
        refine AF.bipush (nI 8) dX2_drop_67 (by decide) ?_
        refine AF.iadd dX2_drop_69 ?_
        rw [nI_add]
        refine AF.iload_n dX2_drop_70 rfl ?_
        refine AF.vw dX2_drop_71 kv_X2_51 (X2_moveStep_ok hF0 ha (s + 8) s (by omega) (by omega)) (by assumption) rfl rfl rfl (Nat.le_of_ble_eq_true rfl) (by decide) rfl (fun E F9 q => nomatch q.1) (fun v F q => ?_)
        obtain ⟨q, hF1, q2⟩ := q
        cases q
        refine AF.inc1 dX2_drop_74 rfl (by decide) ?_
        refine AF.goto 53 dX2_drop_77 (by decide) ?_
        replace hfr := hfr.trans q2 (by omega) (by omega)
        refine ih (s + 1) F _ _ _ _ (by omega) (by omega) hF1 hfr hsc (fun q hq => ?_) (fun q hq1 hq2 => ?_)
        · rw [upd_n (by omega), upd_n (by omega), upd_n (by omega)]
          exact hk q (by omega)
        · by_cases e : q = s
          · subst e
            rw [upd_s, upd_s, upd_s]
            exact hk (q + 8) (by omega)
          · rw [upd_n e, upd_n e, upd_n e]
            exact hm q hq1 (by omega)
  have loop1 : ∀ k j F1 sc1, j + k = Fg.length - 1 → x ≤ j → FA0 G F1 a (Fg.length - 1) sc1 dl jt op → Fr a (a + 5) F F1 → (∀ i, i < j → sc1 i = nI (fg (Fg.eraseIdx x) i).length) → (∀ i, j ≤ i → sc1 i = sc i) → AF G mX2_drop 1 0 0 (FW G a (Fg.eraseIdx x) (some (.int (nI (fg Fg x).length))) F) F1 19 [some (.ref a), some (.int (nI x)), some (.int (nI (fg Fg x).length)), some (.int (nI j))] [] := by
    intro k
    induction k with
    | zero =>
      intro j F sc1 hj hxj hF1 hfr ha1 ha2
      have hF0 := hF1
      obtain ⟨h0, h1, h2, h3, h4⟩ := hF1
      refine AF.iload_n dX2_drop_19 rfl ?_
      refine AF.aload_n dX2_drop_20 rfl ?_
      refine AF.getfield dX2_drop_21 fl_X2_24 (by assumption) rfl ?_
      refine AF.icmp_ge 47 dX2_drop_24 (by decide) (fun hb => ?_) (fun hb => ?_)
      · refine AF.iload_n dX2_drop_47 rfl ?_
        refine AF.iconst (nI 0) dX2_drop_48 (by decide) ?_
        refine AF.sn1 dX2_drop_49 kn_X2_47 ((X8_slot_ok x 0)) rfl rfl (Nat.le_of_ble_eq_true rfl) (by decide) rfl ?_
        refine AF.istore_n dX2_drop_52 (by decide) ?_
        exact loop2 ((Fg.length - 1) * 8 - x * 8) (x * 8 + 0) F sc1 dl jt op (by omega) (by omega) hF0 hfr (fun i hi => ha1 i (by omega)) (fun q _ => ⟨rfl, rfl, rfl⟩) (fun q h1 h2 => by omega)
      · exact absurd (by rw [nI_leI (by omega) (by omega)]; omega) hb
    | succ k ih =>
      intro j F sc1 hj hxj hF1 hfr ha1 ha2
      obtain ⟨h0, h1, h2, h3, h4⟩ := hF1
      refine AF.iload_n dX2_drop_19 rfl ?_
      refine AF.aload_n dX2_drop_20 rfl ?_
      refine AF.getfield dX2_drop_21 fl_X2_24 (by assumption) rfl ?_
      refine AF.icmp_ge 47 dX2_drop_24 (by decide) (fun hb => ?_) (fun hb => ?_)
      · rw [nI_leI (by omega) (by omega)] at hb
        omega
      · refine AF.aload_n dX2_drop_27 rfl ?_
        refine AF.getfield dX2_drop_28 fl_X2_9 (by assumption) rfl ?_
        refine AF.iload_n dX2_drop_31 rfl ?_
        refine AF.aload_n dX2_drop_32 rfl ?_
        refine AF.getfield dX2_drop_33 fl_X2_9 (by assumption) rfl ?_
        refine AF.iload_n dX2_drop_36 rfl ?_
        refine AF.iconst (nI 1) dX2_drop_37 (by decide) ?_
        refine AF.iadd dX2_drop_38 ?_
        refine AF.iaload (j + 1) dX2_drop_39 (by assumption) (by first | rfl | exact nI_1 _ | (simp only [nI_add, pk_mul, nI_1]; exact congrArg nI (by omega)) | simp only [nI_add, pk_mul, nI_1]) (by omega) (by decide) ?_
        refine AF.iastoreF (_) dX2_drop_40 h1 (by omega) rfl (by omega) (by decide) ?_
        intro F e9 h9 o9
        replace h0 := (o9 (a) (by omega)).trans h0
        replace h2 := (o9 (a + 2) (by omega)).trans h2
        replace h3 := (o9 (a + 3) (by omega)).trans h3
        replace h4 := (o9 (a + 4) (by omega)).trans h4
        replace h1 := h9
        replace hfr := hfr.step e9 (by omega) (by omega) o9
        clear e9 h9 o9
        refine AF.inc1 dX2_drop_41 rfl (by decide) ?_
        refine AF.goto 19 dX2_drop_44 (by decide) ?_
        refine ih (j + 1) F _ (by omega) (by omega) ⟨h0, h1, h2, h3, h4⟩ hfr (fun i hi => ?_) (fun i hi => ?_)
        · by_cases e : i = j
          · subst e
            rw [upd_s, ha2 (i + 1) (by omega), (hr.2 (i + 1) (by omega)).2.1, fg, fg, gd_era, if_neg (by omega)]
          · rw [upd_n e]
            exact ha1 i (by omega)
        · rw [upd_n (by omega)]
          exact ha2 i (by omega)
  refine AF.aload_n dX2_drop_0 rfl ?_
  refine AF.getfield dX2_drop_1 fl_X2_9 (by assumption) rfl ?_
  refine AF.iload_n dX2_drop_4 rfl ?_
  refine AF.iaload (_) dX2_drop_5 (by assumption) rfl (by omega) (by decide) ?_
  rw [(hr.2 x hx).2.1]
  refine AF.istore_n dX2_drop_6 (by decide) ?_
  refine AF.aload_n dX2_drop_7 rfl ?_
  refine AF.dup dX2_drop_8 rfl ?_
  refine AF.getfield dX2_drop_9 fl_X2_24 (by assumption) rfl ?_
  refine AF.iconst (1) dX2_drop_12 (by decide) ?_
  refine AF.isub dX2_drop_13 ?_
  rw [show nI Fg.length - 1 = nI (Fg.length - 1) by rw [show Fg.length = Fg.length - 1 + 1 by omega, nI_pred]; rfl]
  refine AF.putfieldF dX2_drop_14 fp_X2_24 h0 (by omega) (Nat.le_of_ble_eq_true rfl) rfl rfl (Or.inr fq_0_4) ?_
  intro F e9 h9 o9
  replace h1 := (o9 (a + 1) (by omega)).trans h1
  replace h2 := (o9 (a + 2) (by omega)).trans h2
  replace h3 := (o9 (a + 3) (by omega)).trans h3
  replace h4 := (o9 (a + 4) (by omega)).trans h4
  replace h0 := h9
  replace hfr := hfr.step e9 (by omega) (by omega) o9
  clear e9 h9 o9
  refine AF.iload_n dX2_drop_17 rfl ?_
  refine AF.istore_n dX2_drop_18 (by decide) ?_
  refine loop1 (Fg.length - 1 - x) x F sc (by omega) (Nat.le_refl _) ⟨h0, h1, h2, h3, h4⟩ hfr (fun i hi => ?_) (fun i _ => rfl)
  rw [fg, gd_era, if_pos hi]
  exact (hr.2 i (by omega)).2.1
theorem FR.row {sc dl jt op sc' dl' jt' op' : Nat → Int32} {i : Nat} {L : List Sp} (hr : FR Fg sc dl jt op) (hi : i < Fg.length) (h8 : L.length ≤ 8) (hs : sc' i = nI L.length) (hs' : ∀ j, ¬ j = i → sc' j = sc j) (hrow : RowR L i dl' jt' op') (ho : ∀ q, (q < i * 8 ∨ i * 8 + 8 ≤ q) → dl' q = dl q ∧ jt' q = jt q ∧ op' q = op q) : FR (Fg.set i L) sc' dl' jt' op' := by
  refine ⟨by rw [List.length_set]; exact hr.1, fun j hj => ?_⟩
  rw [List.length_set] at hj
  rw [fg, gd_set]
  by_cases e : j = i
  · subst e
    rw [if_pos ⟨rfl, hi⟩]
    exact ⟨h8, hs, hrow⟩
  · rw [if_neg (fun q => e q.1)]
    have q9 := hr.2 j hj
    refine ⟨q9.1, by rw [hs' j e]; exact q9.2.1, fun k hk => ?_⟩
    have q8 := q9.1
    have := ho (j * 8 + k) (by unfold fg at q8; omega)
    rw [this.1, this.2.1, this.2.2]
    exact q9.2.2 k hk
theorem FA0.len {n n' : Nat} {sc dl jt op : Nat → Int32} (h : FA0 G F a n sc dl jt op) (e : n' = n) : FA0 G F a n' sc dl jt op := e ▸ h
set_option maxRecDepth 100000 in
theorem X2_appendStep_ok (hF : FA G F a Fg) (ha : gN G ≤ a) (i x y z : Nat) (hi : i < Fg.length) (h7 : (fg Fg i).length < 8) : AC G mX2_appendStep 1 0 0 [.ref a, .int (nI i), .int (nI x), .int (nI y), .int (nI z)] F (FW G a (Fg.set i (fg Fg i ++ [(x, y, z)])) (some (.int (nI ((fg Fg i).length + 1)))) F) := by
  obtain ⟨sc, dl, jt, op, ⟨h0, h1, h2, h3, h4⟩, hr⟩ := hF
  have h5 := hr.1
  obtain ⟨h8, hsc, hrow⟩ := hr.2 i hi
  refine AC.of [some (.ref a), some (.int (nI i)), some (.int (nI x)), some (.int (nI y)), some (.int (nI z)), none] rfl (by decide) (Nat.le_of_ble_eq_true rfl) rfl ?_
  have hfr : Fr a (a + 5) F F := Fr.rf
  refine AF.iload_n dX2_appendStep_0 rfl ?_
  refine AF.aload_n dX2_appendStep_1 rfl ?_
  refine AF.getfield dX2_appendStep_2 fl_X2_9 (by assumption) rfl ?_
  refine AF.iload_n dX2_appendStep_5 rfl ?_
  refine AF.iaload (_) dX2_appendStep_6 (by assumption) rfl (by omega) (by decide) ?_
  rw [hsc]
  refine AF.sn1 dX2_appendStep_7 kn_X2_47 ((X8_slot_ok i (fg Fg i).length)) rfl rfl (Nat.le_of_ble_eq_true rfl) (by decide) rfl ?_
  refine AF.istore dX2_appendStep_10 (by decide) ?_
  refine AF.aload_n dX2_appendStep_12 rfl ?_
  refine AF.getfield dX2_appendStep_13 fl_X2_15 (by assumption) rfl ?_
  refine AF.iload dX2_appendStep_16 rfl ?_
  refine AF.iload_n dX2_appendStep_18 rfl ?_
  refine AF.iastoreF (_) dX2_appendStep_19 h2 (by omega) rfl (by omega) (by decide) ?_
  intro F e9 h9 o9
  replace h0 := (o9 (a) (by omega)).trans h0
  replace h1 := (o9 (a + 1) (by omega)).trans h1
  replace h3 := (o9 (a + 3) (by omega)).trans h3
  replace h4 := (o9 (a + 4) (by omega)).trans h4
  replace h2 := h9
  replace hfr := hfr.step e9 (by omega) (by omega) o9
  clear e9 h9 o9
  refine AF.aload_n dX2_appendStep_20 rfl ?_
  refine AF.getfield dX2_appendStep_21 fl_X2_18 (by assumption) rfl ?_
  refine AF.iload dX2_appendStep_24 rfl ?_
  refine AF.iload_n dX2_appendStep_26 rfl ?_
  refine AF.iastoreF (_) dX2_appendStep_27 h3 (by omega) rfl (by omega) (by decide) ?_
  intro F e9 h9 o9
  replace h0 := (o9 (a) (by omega)).trans h0
  replace h1 := (o9 (a + 1) (by omega)).trans h1
  replace h2 := (o9 (a + 2) (by omega)).trans h2
  replace h4 := (o9 (a + 4) (by omega)).trans h4
  replace h3 := h9
  replace hfr := hfr.step e9 (by omega) (by omega) o9
  clear e9 h9 o9
  refine AF.aload_n dX2_appendStep_28 rfl ?_
  refine AF.getfield dX2_appendStep_29 fl_X2_21 (by assumption) rfl ?_
  refine AF.iload dX2_appendStep_32 rfl ?_
  refine AF.iload dX2_appendStep_34 rfl ?_
  refine AF.iastoreF (_) dX2_appendStep_36 h4 (by omega) rfl (by omega) (by decide) ?_
  intro F e9 h9 o9
  replace h0 := (o9 (a) (by omega)).trans h0
  replace h1 := (o9 (a + 1) (by omega)).trans h1
  replace h2 := (o9 (a + 2) (by omega)).trans h2
  replace h3 := (o9 (a + 3) (by omega)).trans h3
  replace h4 := h9
  replace hfr := hfr.step e9 (by omega) (by omega) o9
  clear e9 h9 o9
  refine AF.aload_n dX2_appendStep_37 rfl ?_
  refine AF.getfield dX2_appendStep_38 fl_X2_9 (by assumption) rfl ?_
  refine AF.iload_n dX2_appendStep_41 rfl ?_
  refine AF.dup2 dX2_appendStep_42 rfl rfl ?_
  refine AF.iaload (_) dX2_appendStep_43 (by assumption) rfl (by omega) (by decide) ?_
  rw [hsc]
  refine AF.iconst (nI 1) dX2_appendStep_44 (by decide) ?_
  refine AF.iadd dX2_appendStep_45 ?_
  rw [nI_add]
  refine AF.iastoreF (_) dX2_appendStep_46 h1 (by omega) rfl (by omega) (by decide) ?_
  intro F e9 h9 o9
  replace h0 := (o9 (a) (by omega)).trans h0
  replace h2 := (o9 (a + 2) (by omega)).trans h2
  replace h3 := (o9 (a + 3) (by omega)).trans h3
  replace h4 := (o9 (a + 4) (by omega)).trans h4
  replace h1 := h9
  replace hfr := hfr.step e9 (by omega) (by omega) o9
  clear e9 h9 o9
  refine AF.aload_n dX2_appendStep_47 rfl ?_
  refine AF.getfield dX2_appendStep_48 fl_X2_9 (by assumption) rfl ?_
  refine AF.iload_n dX2_appendStep_51 rfl ?_
  refine AF.iaload (_) dX2_appendStep_52 (by assumption) rfl (by omega) (by decide) ?_
  rw [upd_s]
  refine AF.ireturn dX2_appendStep_53 rfl ⟨rfl, ⟨_, _, _, _, FA0.len ⟨h0, h1, h2, h3, h4⟩ (List.length_set ..), hr.row hi (by rw [List.length_append]; simp only [List.length_cons, List.length_nil]; omega) (by rw [upd_s, List.length_append]; rfl) (fun j hj => upd_n hj) (fun k hk => ?_) (fun q hq => by rw [upd_n (by omega), upd_n (by omega), upd_n (by omega)]; exact ⟨rfl, rfl, rfl⟩)⟩, hfr⟩
  rw [List.length_append] at hk
  rw [g3, gd_app]
  by_cases e : k = (fg Fg i).length
  · subst e
    rw [if_pos rfl, upd_s, upd_s, upd_s]
    exact ⟨rfl, rfl, rfl⟩
  · rw [if_neg e, upd_n (by omega), upd_n (by omega), upd_n (by omega)]
    exact hrow k (by simp only [List.length_cons, List.length_nil] at hk; omega)
set_option maxRecDepth 100000 in
theorem X2_dropStep_ok (hF : FA G F a Fg) (ha : gN G ≤ a) (i x : Nat) (hi : i < Fg.length) (hx : x < (fg Fg i).length) : AC G mX2_dropStep 1 0 0 [.ref a, .int (nI i), .int (nI x)] F (FW G a (Fg.set i ((fg Fg i).eraseIdx x)) (some (.int (nI ((fg Fg i).length - 1)))) F) := by
  obtain ⟨sc, dl, jt, op, ⟨h0, h1, h2, h3, h4⟩, hr⟩ := hF
  have h5 := hr.1
  obtain ⟨h8, hsc, hrow⟩ := hr.2 i hi
  have hlen : ((fg Fg i).eraseIdx x).length = (fg Fg i).length - 1 := List.length_eraseIdx_of_lt hx
  refine AC.of [some (.ref a), some (.int (nI i)), some (.int (nI x)), none] rfl (by decide) (Nat.le_of_ble_eq_true rfl) rfl ?_
  have hfr : Fr a (a + 5) F F := Fr.rf
  have loop : ∀ k j F1 sc1 dl1 jt1 op1, j + k = (fg Fg i).length - 1 → x ≤ j → FA0 G F1 a Fg.length sc1 dl1 jt1 op1 → Fr a (a + 5) F F1 → sc1 i = nI ((fg Fg i).length - 1) → (∀ m, ¬ m = i → sc1 m = sc m) → (∀ q, (q < i * 8 + x ∨ i * 8 + j ≤ q) → dl1 q = dl q ∧ jt1 q = jt q ∧ op1 q = op q) → (∀ q, x ≤ q → q < j → dl1 (i * 8 + q) = dl (i * 8 + (q + 1)) ∧ jt1 (i * 8 + q) = jt (i * 8 + (q + 1)) ∧ op1 (i * 8 + q) = op (i * 8 + (q + 1))) → AF G mX2_dropStep 1 0 0 (FW G a (Fg.set i ((fg Fg i).eraseIdx x)) (some (.int (nI ((fg Fg i).length - 1)))) F) F1 12 [some (.ref a), some (.int (nI i)), some (.int (nI x)), some (.int (nI j))] [] := by
    intro k
    induction k with
    | zero =>
      intro j F sc1 dl1 jt1 op1 hj hxj hF1 hfr hs1 hs2 hk hm
      have hF0 := hF1
      obtain ⟨h0, h1, h2, h3, h4⟩ := hF1
      refine AF.iload_n dX2_dropStep_12 rfl ?_
      refine AF.aload_n dX2_dropStep_13 rfl ?_
      refine AF.getfield dX2_dropStep_14 fl_X2_9 (by assumption) rfl ?_
      refine AF.iload_n dX2_dropStep_17 rfl ?_
      refine AF.iaload (_) dX2_dropStep_18 (by assumption) rfl (by omega) (by decide) ?_
      rw [hs1]
      refine AF.icmp_ge 44 dX2_dropStep_19 (by decide) (fun hb => ?_) (fun hb => ?_)
      · refine AF.aload_n dX2_dropStep_44 rfl ?_
        refine AF.getfield dX2_dropStep_45 fl_X2_9 (by assumption) rfl ?_
        refine AF.iload_n dX2_dropStep_48 rfl ?_
        refine AF.iaload (_) dX2_dropStep_49 (by assumption) rfl (by omega) (by decide) ?_
        rw [hs1]
        refine AF.ireturn dX2_dropStep_50 rfl ⟨rfl, ⟨_, _, _, _, FA0.len hF0 (List.length_set ..), hr.row hi (by omega) (by rw [hs1, hlen]) hs2 (fun m hm' => ?_) (fun q hq => hk q (by omega))⟩, hfr⟩
        rw [hlen] at hm'
        rw [g3, gd_era]
        by_cases e : m < x
        · rw [if_pos e]
          have := hk (i * 8 + m) (by omega)
          rw [this.1, this.2.1, this.2.2]
          exact hrow m (by omega)
        · rw [if_neg e]
          have := hm m (by omega) (by omega)
          rw [this.1, this.2.1, this.2.2]
          exact hrow (m + 1) (by omega)
      · exact absurd (by rw [nI_leI (by omega) (by omega)]; omega) hb
    | succ k ih =>
      intro j F sc1 dl1 jt1 op1 hj hxj hF1 hfr hs1 hs2 hk hm
      have hF0 := hF1
      obtain ⟨h0, h1, h2, h3, h4⟩ := hF1
      refine AF.iload_n dX2_dropStep_12 rfl ?_
      refine AF.aload_n dX2_dropStep_13 rfl ?_
      refine AF.getfield dX2_dropStep_14 fl_X2_9 (by assumption) rfl ?_
      refine AF.iload_n dX2_dropStep_17 rfl ?_
      refine AF.iaload (_) dX2_dropStep_18 (by assumption) rfl (by omega) (by decide) ?_
      rw [hs1]
      refine AF.icmp_ge 44 dX2_dropStep_19 (by decide) (fun hb => ?_) (fun hb => ?_)
      · rw [nI_leI (by omega) (by omega)] at hb
        omega
      · refine AF.aload_n dX2_dropStep_22 rfl ?_
        refine AF.iload_n dX2_dropStep_23 rfl ?_
        refine AF.iload_n dX2_dropStep_24 rfl ?_
        refine AF.iconst (nI 1) dX2_dropStep_25 (by decide) ?_
        refine AF.iadd dX2_dropStep_26 ?_
        rw [nI_add]
        refine AF.sn1 dX2_dropStep_27 kn_X2_47 ((X8_slot_ok i (j + 1))) rfl rfl (Nat.le_of_ble_eq_true rfl) (by decide) rfl ?_
        refine AF.iload_n dX2_dropStep_30 rfl ?_
        refine AF.iload_n dX2_dropStep_31 rfl ?_
        refine AF.sn1 dX2_dropStep_32 kn_X2_47 ((X8_slot_ok i j)) rfl rfl (Nat.le_of_ble_eq_true rfl) (by decide) rfl ?_
        refine AF.vw dX2_dropStep_35 kv_X2_51 (X2_moveStep_ok hF0 ha (i * 8 + (j + 1)) (i * 8 + j) (by omega) (by omega)) (by assumption) rfl rfl rfl (Nat.le_of_ble_eq_true rfl) (by decide) rfl (fun E F9 q => nomatch q.1) (fun v F q => ?_)
        obtain ⟨q, hF1, q2⟩ := q
        cases q
        refine AF.inc1 dX2_dropStep_38 rfl (by decide) ?_
        refine AF.goto 12 dX2_dropStep_41 (by decide) ?_
        replace hfr := hfr.trans q2 (by omega) (by omega)
        refine ih (j + 1) F _ _ _ _ (by omega) (by omega) hF1 hfr hs1 hs2 (fun q hq => ?_) (fun q hq1 hq2 => ?_)
        · rw [upd_n (by omega), upd_n (by omega), upd_n (by omega)]
          exact hk q (by omega)
        · by_cases e : q = j
          · subst e
            rw [upd_s, upd_s, upd_s]
            exact hk (i * 8 + (q + 1)) (by omega)
          · rw [upd_n (by omega), upd_n (by omega), upd_n (by omega)]
            exact hm q hq1 (by omega)
  refine AF.aload_n dX2_dropStep_0 rfl ?_
  refine AF.getfield dX2_dropStep_1 fl_X2_9 (by assumption) rfl ?_
  refine AF.iload_n dX2_dropStep_4 rfl ?_
  refine AF.dup2 dX2_dropStep_5 rfl rfl ?_
  refine AF.iaload (_) dX2_dropStep_6 (by assumption) rfl (by omega) (by decide) ?_
  rw [hsc]
  refine AF.iconst (1) dX2_dropStep_7 (by decide) ?_
  refine AF.isub dX2_dropStep_8 ?_
  rw [show nI (fg Fg i).length - 1 = nI ((fg Fg i).length - 1) by rw [show (fg Fg i).length = (fg Fg i).length - 1 + 1 by omega, nI_pred]; rfl]
  refine AF.iastoreF (_) dX2_dropStep_9 h1 (by omega) rfl (by omega) (by decide) ?_
  intro F e9 h9 o9
  replace h0 := (o9 (a) (by omega)).trans h0
  replace h2 := (o9 (a + 2) (by omega)).trans h2
  replace h3 := (o9 (a + 3) (by omega)).trans h3
  replace h4 := (o9 (a + 4) (by omega)).trans h4
  replace h1 := h9
  replace hfr := hfr.step e9 (by omega) (by omega) o9
  clear e9 h9 o9
  refine AF.iload_n dX2_dropStep_10 rfl ?_
  refine AF.istore_n dX2_dropStep_11 (by decide) ?_
  exact loop ((fg Fg i).length - 1 - x) x F _ dl jt op (by omega) (Nat.le_refl _) ⟨h0, h1, h2, h3, h4⟩ hfr upd_s (fun m hm => upd_n hm) (fun q _ => ⟨rfl, rfl, rfl⟩) (fun q h1 h2 => by omega)
end

