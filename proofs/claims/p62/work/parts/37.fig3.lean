/-! Figures: forgetting a jet, copies, makings. -/
def fg1 (x : Nat) (s : Sp) : Sp := (s.1, (if x < s.2.1 then s.2.1 - 1 else s.2.1), s.2.2)
theorem fgt_take {x s : Nat} {L : List Sp} (h : s < L.length) : fgt x (L.take (s + 1)) = fgt x (L.take s) ++ (if (g3 L s).2.1 = x then [] else [fg1 x (g3 L s)]) := by
  have e : g3 L s = L[s] := by rw [g3, List.getD_eq_getElem?_getD, List.getElem?_eq_getElem h]; rfl
  rw [List.take_succ_eq_append_getElem h, fgt, List.filter_append, List.map_append, e]
  by_cases q : L[s].2.1 = x
  · rw [if_pos q]; simp [q, fgt]
  · rw [if_neg q]; simp [q, fgt, fg1]
theorem fgt_all {x : Nat} {L : List Sp} : fgt x (L.take L.length) = fgt x L := by rw [List.take_length]
theorem fgt_tl {x s : Nat} {L : List Sp} : (fgt x (L.take s)).length ≤ s := Nat.le_trans fgt_le (by rw [List.length_take]; omega)
/-- figures before j have forgotten the jet -/
def fgS (x : Nat) (Fg : List (List Sp)) : Nat → List (List Sp)
  | 0 => Fg
  | j + 1 => (fgS x Fg j).set j (fgt x (fg (fgS x Fg j) j))
theorem fgS_len {x : Nat} {Fg : List (List Sp)} : ∀ j, (fgS x Fg j).length = Fg.length
  | 0 => rfl
  | j + 1 => by rw [fgS, List.length_set]; exact fgS_len j
theorem fgS_get {x : Nat} {Fg : List (List Sp)} {m : Nat} : ∀ j, j ≤ Fg.length → fg (fgS x Fg j) m = if m < j then fgt x (fg Fg m) else fg Fg m
  | 0, _ => rfl
  | j + 1, h => by
    rw [fgS, fg, gd_set, fgS_len]
    have h1 := fgS_get (x := x) (Fg := Fg) (m := m) j (by omega)
    have h2 := fgS_get (x := x) (Fg := Fg) (m := j) j (by omega)
    rw [if_neg (by omega)] at h2
    by_cases e : m = j
    · subst e
      rw [if_pos ⟨rfl, by omega⟩, if_pos (by omega), h2]
    · rw [if_neg (fun q => e q.1)]
      show fg (fgS x Fg j) m = _
      rw [h1]
      by_cases q : m < j
      · rw [if_pos q, if_pos (by omega)]
      · rw [if_neg q, if_neg (by omega)]
theorem fg_ext {A B : List (List Sp)} (h : A.length = B.length) (e : ∀ i, i < A.length → fg A i = fg B i) : A = B := by
  refine List.ext_getElem h (fun i h1 h2 => ?_)
  have q := e i h1
  rw [fg, fg, List.getD_eq_getElem?_getD, List.getD_eq_getElem?_getD, List.getElem?_eq_getElem h1, List.getElem?_eq_getElem h2] at q
  exact q
theorem fg_map {x : Nat} {Fg : List (List Sp)} {i : Nat} (h : i < Fg.length) : fg (Fg.map (fgt x)) i = fgt x (fg Fg i) := by
  rw [fg, fg, List.getD_eq_getElem?_getD, List.getD_eq_getElem?_getD, List.getElem?_map, List.getElem?_eq_getElem h]
  rfl
theorem fgS_end {x : Nat} {Fg : List (List Sp)} : fgS x Fg Fg.length = Fg.map (fgt x) := by
  refine fg_ext (by rw [fgS_len, List.length_map]) (fun i hi => ?_)
  rw [fgS_len] at hi
  rw [fgS_get _ (Nat.le_refl _), if_pos hi, fg_map hi]
section
variable {G : GA} {F : AH} {a : Nat} {Fg : List (List Sp)}
set_option maxRecDepth 100000 in
theorem X2_forgetJetIn_ok {F0 : AH} (hF : FA G F0 a Fg) (ha : gN G ≤ a) (i x : Nat) (hi : i < Fg.length) (hx : x < 10) (hI : ∀ k, k < (fg Fg i).length → (g3 (fg Fg i) k).2.1 < 10) : AC G mX2_forgetJetIn 1 0 0 [.ref a, .int (nI i), .int (nI x)] F0 (FW G a (Fg.set i (fgt x (fg Fg i))) (some (.int (nI ((fg Fg i).length - (fgt x (fg Fg i)).length)))) F0) := by
  obtain ⟨sc, dl, jt, op, ⟨h0, h1, h2, h3, h4⟩, hr⟩ := hF
  have h5 := hr.1
  obtain ⟨h8, hsc, hrow⟩ := hr.2 i hi
  refine AC.of [some (.ref a), some (.int (nI i)), some (.int (nI x)), none, none, none, none, none] rfl (by decide) (Nat.le_of_ble_eq_true rfl) rfl ?_
  have hfr : Fr a (a + 5) F0 F0 := Fr.rf
  have loop : ∀ k s F1 dl1 jt1 op1 z1 z2, s + k = (fg Fg i).length → FA0 G F1 a Fg.length sc dl1 jt1 op1 → Fr a (a + 5) F0 F1 → RowR (fgt x ((fg Fg i).take s)) i dl1 jt1 op1 → (∀ q, (q < i * 8 ∨ i * 8 + s ≤ q) → dl1 q = dl q ∧ jt1 q = jt q ∧ op1 q = op q) → AF G mX2_forgetJetIn 1 0 0 (FW G a (Fg.set i (fgt x (fg Fg i))) (some (.int (nI ((fg Fg i).length - (fgt x (fg Fg i)).length)))) F0) F1 13 [some (.ref a), some (.int (nI i)), some (.int (nI x)), some (.int (nI (fg Fg i).length)), some (.int (nI (fgt x ((fg Fg i).take s)).length)), some (.int (nI s)), z1, z2] [] := by
    intro k
    induction k with
    | zero =>
      intro s F dl1 jt1 op1 z1 z2 hs hF1 hfr hrw ho
      obtain ⟨h0, h1, h2, h3, h4⟩ := hF1
      have e : s = (fg Fg i).length := by omega
      subst e
      have e9 : fgt x ((fg Fg i).take (fg Fg i).length) = fgt x (fg Fg i) := fgt_all
      rw [e9] at hrw ⊢
      have q9 : (fgt x (fg Fg i)).length ≤ (fg Fg i).length := fgt_le
      refine AF.iload dX2_forgetJetIn_13 rfl ?_
      refine AF.iload_n dX2_forgetJetIn_15 rfl ?_
      refine AF.icmp_ge 100 dX2_forgetJetIn_16 (by decide) (fun hb => ?_) (fun hb => ?_)
      · refine AF.aload_n dX2_forgetJetIn_100 rfl ?_
        refine AF.getfield dX2_forgetJetIn_101 fl_X2_9 (by assumption) rfl ?_
        refine AF.iload_n dX2_forgetJetIn_104 rfl ?_
        refine AF.iload dX2_forgetJetIn_105 rfl ?_
        refine AF.iastoreF (_) dX2_forgetJetIn_107 h1 (by omega) rfl (by omega) (by decide) ?_
        intro F e9 h9 o9
        replace h0 := (o9 (a) (by omega)).trans h0
        replace h2 := (o9 (a + 2) (by omega)).trans h2
        replace h3 := (o9 (a + 3) (by omega)).trans h3
        replace h4 := (o9 (a + 4) (by omega)).trans h4
        replace h1 := h9
        replace hfr := hfr.step e9 (by omega) (by omega) o9
        clear e9 h9 o9
        refine AF.iload_n dX2_forgetJetIn_108 rfl ?_
        refine AF.iload dX2_forgetJetIn_109 rfl ?_
        refine AF.isub dX2_forgetJetIn_111 ?_
        refine AF.ireturn dX2_forgetJetIn_112 rfl ⟨by rw [pk_sub q9], ⟨_, _, _, _, FA0.len ⟨h0, h1, h2, h3, h4⟩ (List.length_set ..), hr.row hi (by omega) upd_s (fun j hj => upd_n hj) hrw (fun q hq => ho q (by omega))⟩, hfr⟩
      · exact absurd (by rw [nI_leI (by omega) (by omega)]; omega) hb
    | succ k ih =>
      intro s F dl1 jt1 op1 z1 z2 hs hF1 hfr hrw ho
      have hF0 := hF1
      obtain ⟨h0, h1, h2, h3, h4⟩ := hF1
      have q1 := hI s (by omega)
      have qt := fgt_take (x := x) (L := fg Fg i) (s := s) (by omega)
      have ql := fgt_tl (x := x) (s := s) (L := fg Fg i)
      have hos := ho (i * 8 + s) (by omega)
      have hrs := hrow s (by omega)
      rw [← hos.1, ← hos.2.1, ← hos.2.2] at hrs
      refine AF.iload dX2_forgetJetIn_13 rfl ?_
      refine AF.iload_n dX2_forgetJetIn_15 rfl ?_
      refine AF.icmp_ge 100 dX2_forgetJetIn_16 (by decide) (fun hb => ?_) (fun hb => ?_)
      · rw [nI_leI (by omega) (by omega)] at hb
        omega
      · refine AF.iload_n dX2_forgetJetIn_19 rfl ?_
        refine AF.iload dX2_forgetJetIn_20 rfl ?_
        refine AF.sn1 dX2_forgetJetIn_22 kn_X2_47 ((X8_slot_ok i s)) rfl rfl (Nat.le_of_ble_eq_true rfl) (by decide) rfl ?_
        refine AF.istore dX2_forgetJetIn_25 (by decide) ?_
        refine AF.aload_n dX2_forgetJetIn_27 rfl ?_
        refine AF.getfield dX2_forgetJetIn_28 fl_X2_18 (by assumption) rfl ?_
        refine AF.iload dX2_forgetJetIn_31 rfl ?_
        refine AF.iaload (_) dX2_forgetJetIn_33 (by assumption) rfl (by omega) (by decide) ?_
        rw [hrs.2.1]
        refine AF.iload_n dX2_forgetJetIn_34 rfl ?_
        refine AF.icmp_eq 94 dX2_forgetJetIn_35 (by decide) (fun hc => ?_) (fun hc => ?_)
        · rw [nI_eq (by omega) (by omega)] at hc
          rw [if_pos hc, List.append_nil] at qt
          refine AF.inc1 dX2_forgetJetIn_94 rfl (by decide) ?_
          refine AF.goto 13 dX2_forgetJetIn_97 (by decide) ?_
          rw [← qt]
          rw [← qt] at hrw
          exact ih (s + 1) F _ _ _ _ _ (by omega) hF0 hfr hrw (fun q hq => ho q (by omega))
        · rw [nI_eq (by omega) (by omega)] at hc
          rw [if_neg hc] at qt
          have hlen : (fgt x ((fg Fg i).take (s + 1))).length = (fgt x ((fg Fg i).take s)).length + 1 := by rw [qt]; simp
          have fin : ∀ F2 dl2 jt2 op2 z1 z2, FA0 G F2 a Fg.length sc dl2 jt2 op2 → Fr a (a + 5) F F2 → (∀ q, ¬ q = i * 8 + (fgt x ((fg Fg i).take s)).length → dl2 q = dl1 q ∧ jt2 q = jt1 q ∧ op2 q = op1 q) → dl2 (i * 8 + (fgt x ((fg Fg i).take s)).length) = nI (g3 (fg Fg i) s).1 → jt2 (i * 8 + (fgt x ((fg Fg i).take s)).length) = nI (if x < (g3 (fg Fg i) s).2.1 then (g3 (fg Fg i) s).2.1 - 1 else (g3 (fg Fg i) s).2.1) → op2 (i * 8 + (fgt x ((fg Fg i).take s)).length) = nI (g3 (fg Fg i) s).2.2 → AF G mX2_forgetJetIn 1 0 0 (FW G a (Fg.set i (fgt x (fg Fg i))) (some (.int (nI ((fg Fg i).length - (fgt x (fg Fg i)).length)))) F0) F2 91 [some (.ref a), some (.int (nI i)), some (.int (nI x)), some (.int (nI (fg Fg i).length)), some (.int (nI (fgt x ((fg Fg i).take s)).length)), some (.int (nI s)), z1, z2] [] := by
            intro F2 dl2 jt2 op2 z1 z2 hF2 hf2 k1 k2 k3 k4
            refine AF.inc1 dX2_forgetJetIn_91 rfl (by decide) ?_
            refine AF.inc1 dX2_forgetJetIn_94 rfl (by decide) ?_
            refine AF.goto 13 dX2_forgetJetIn_97 (by decide) ?_
            rw [← hlen]
            refine ih (s + 1) F2 _ _ _ _ _ (by omega) hF2 (hfr.trans hf2 (Nat.le_refl _) (Nat.le_refl _)) (fun m hm => ?_) (fun q hq => ?_)
            · rw [hlen] at hm
              rw [qt, g3, gd_app]
              by_cases e : m = (fgt x ((fg Fg i).take s)).length
              · rw [if_pos e, e]
                exact ⟨k2, k3, k4⟩
              · rw [if_neg e]
                have := k1 (i * 8 + m) (by omega)
                rw [this.1, this.2.1, this.2.2]
                exact hrw m (by omega)
            · have := k1 q (by omega)
              rw [this.1, this.2.1, this.2.2]
              exact ho q (by omega)
          refine AF.iload_n dX2_forgetJetIn_38 rfl ?_
          refine AF.iload dX2_forgetJetIn_39 rfl ?_
          refine AF.sn1 dX2_forgetJetIn_41 kn_X2_47 ((X8_slot_ok i (fgt x ((fg Fg i).take s)).length)) rfl rfl (Nat.le_of_ble_eq_true rfl) (by decide) rfl ?_
          refine AF.istore dX2_forgetJetIn_44 (by decide) ?_
          refine AF.aload_n dX2_forgetJetIn_46 rfl ?_
          refine AF.iload dX2_forgetJetIn_47 rfl ?_
          refine AF.iload dX2_forgetJetIn_49 rfl ?_
          refine AF.vw dX2_forgetJetIn_51 kv_X2_51 (X2_moveStep_ok hF0 ha (i * 8 + s) (i * 8 + (fgt x ((fg Fg i).take s)).length) (by omega) (by omega)) (by assumption) rfl rfl rfl (Nat.le_of_ble_eq_true rfl) (by decide) rfl (fun E F9 q => nomatch q.1) (fun v F q => ?_)
          obtain ⟨q, ⟨h0, h1, h2, h3, h4⟩, q2⟩ := q
          cases q
          refine AF.aload_n dX2_forgetJetIn_54 rfl ?_
          refine AF.getfield dX2_forgetJetIn_55 fl_X2_18 (by assumption) rfl ?_
          refine AF.iload dX2_forgetJetIn_58 rfl ?_
          refine AF.aload_n dX2_forgetJetIn_60 rfl ?_
          refine AF.getfield dX2_forgetJetIn_61 fl_X2_18 (by assumption) rfl ?_
          refine AF.iload dX2_forgetJetIn_64 rfl ?_
          refine AF.iaload (_) dX2_forgetJetIn_66 (by assumption) rfl (by omega) (by decide) ?_
          rw [upd_s, hrs.2.1]
          refine AF.iload_n dX2_forgetJetIn_67 rfl ?_
          refine AF.icmp_le 83 dX2_forgetJetIn_68 (by decide) (fun he => ?_) (fun he => ?_)
          · rw [nI_leI (by omega) (by omega)] at he
            refine AF.aload_n dX2_forgetJetIn_83 rfl ?_
            refine AF.getfield dX2_forgetJetIn_84 fl_X2_18 (by assumption) rfl ?_
            refine AF.iload dX2_forgetJetIn_87 rfl ?_
            refine AF.iaload (_) dX2_forgetJetIn_89 (by assumption) rfl (by omega) (by decide) ?_
            rw [upd_s, hrs.2.1]
            have hfr : Fr a (a + 5) _ F := q2
            refine AF.iastoreF (_) dX2_forgetJetIn_90 h3 (by omega) rfl (by omega) (by decide) ?_
            intro F e9 h9 o9
            replace h0 := (o9 (a) (by omega)).trans h0
            replace h1 := (o9 (a + 1) (by omega)).trans h1
            replace h2 := (o9 (a + 2) (by omega)).trans h2
            replace h4 := (o9 (a + 4) (by omega)).trans h4
            replace h3 := h9
            replace hfr := hfr.step e9 (by omega) (by omega) o9
            clear e9 h9 o9
            refine fin F _ _ _ _ _ ⟨h0, h1, h2, h3, h4⟩ hfr (fun q hq => ?_) ?_ ?_ ?_
            · rw [upd_n hq, upd_n hq, upd_n hq, upd_n hq]; exact ⟨rfl, rfl, rfl⟩
            · rw [upd_s]; exact hrs.1
            · rw [upd_s, if_neg (by omega)]
            · rw [upd_s]; exact hrs.2.2
          · rw [nI_leI (by omega) (by omega)] at he
            refine AF.aload_n dX2_forgetJetIn_71 rfl ?_
            refine AF.getfield dX2_forgetJetIn_72 fl_X2_18 (by assumption) rfl ?_
            refine AF.iload dX2_forgetJetIn_75 rfl ?_
            refine AF.iaload (_) dX2_forgetJetIn_77 (by assumption) rfl (by omega) (by decide) ?_
            rw [upd_s, hrs.2.1]
            refine AF.iconst (nI 1) dX2_forgetJetIn_78 (by decide) ?_
            refine AF.isub dX2_forgetJetIn_79 ?_
            rw [show nI (g3 (fg Fg i) s).2.1 - nI 1 = nI ((g3 (fg Fg i) s).2.1 - 1) from pk_sub (by omega)]
            refine AF.goto 90 dX2_forgetJetIn_80 (by decide) ?_
            have hfr : Fr a (a + 5) _ F := q2
            refine AF.iastoreF (_) dX2_forgetJetIn_90 h3 (by omega) rfl (by omega) (by decide) ?_
            intro F e9 h9 o9
            replace h0 := (o9 (a) (by omega)).trans h0
            replace h1 := (o9 (a + 1) (by omega)).trans h1
            replace h2 := (o9 (a + 2) (by omega)).trans h2
            replace h4 := (o9 (a + 4) (by omega)).trans h4
            replace h3 := h9
            replace hfr := hfr.step e9 (by omega) (by omega) o9
            clear e9 h9 o9
            refine fin F _ _ _ _ _ ⟨h0, h1, h2, h3, h4⟩ hfr (fun q hq => ?_) ?_ ?_ ?_
            · rw [upd_n hq, upd_n hq, upd_n hq, upd_n hq]; exact ⟨rfl, rfl, rfl⟩
            · rw [upd_s]; exact hrs.1
            · rw [upd_s, if_pos (by omega)]
            · rw [upd_s]; exact hrs.2.2
  refine AF.aload_n dX2_forgetJetIn_0 rfl ?_
  refine AF.getfield dX2_forgetJetIn_1 fl_X2_9 (by assumption) rfl ?_
  refine AF.iload_n dX2_forgetJetIn_4 rfl ?_
  refine AF.iaload (_) dX2_forgetJetIn_5 (by assumption) rfl (by omega) (by decide) ?_
  rw [hsc]
  refine AF.istore_n dX2_forgetJetIn_6 (by decide) ?_
  refine AF.iconst (nI 0) dX2_forgetJetIn_7 (by decide) ?_
  refine AF.istore dX2_forgetJetIn_8 (by decide) ?_
  refine AF.iconst (nI 0) dX2_forgetJetIn_10 (by decide) ?_
  refine AF.istore dX2_forgetJetIn_11 (by decide) ?_
  exact loop (fg Fg i).length 0 F0 dl jt op none none (by omega) ⟨h0, h1, h2, h3, h4⟩ hfr (fun k hk => absurd hk (Nat.not_lt_zero _)) (fun q _ => ⟨rfl, rfl, rfl⟩)
set_option maxRecDepth 100000 in
theorem X2_forgetJet_ok (hF : FA G F a Fg) (ha : gN G ≤ a) {n : Nat} (hI : FI Fg n) (hn : n ≤ 10) (x : Nat) (hx : x < 10) : AC G mX2_forgetJet 2 0 0 [.ref a, .int (nI x)] F (FW G a (Fg.map (fgt x)) (some (.int (nI (sumN (fun i => (fg Fg i).length - (fgt x (fg Fg i)).length) Fg.length)))) F) := by
  have h5 := hF.choose_spec.choose_spec.choose_spec.choose_spec.2.1
  refine AC.of [some (.ref a), some (.int (nI x)), none, none] rfl (by decide) (Nat.le_of_ble_eq_true rfl) rfl ?_
  have loop : ∀ k j F1, j + k = Fg.length → FA G F1 a (fgS x Fg j) → Fr a (a + 5) F F1 → AF G mX2_forgetJet 2 0 0 (FW G a (Fg.map (fgt x)) (some (.int (nI (sumN (fun i => (fg Fg i).length - (fgt x (fg Fg i)).length) Fg.length)))) F) F1 4 [some (.ref a), some (.int (nI x)), some (.int (nI (sumN (fun i => (fg Fg i).length - (fgt x (fg Fg i)).length) j))), some (.int (nI j))] [] := by
    intro k
    induction k with
    | zero =>
      intro j F hj hF1 hfr
      have hF0 := hF1
      obtain ⟨sc, dl, jt, op, ⟨h0, h1, h2, h3, h4⟩, hr⟩ := hF1
      rw [fgS_len] at h0
      refine AF.iload_n dX2_forgetJet_4 rfl ?_
      refine AF.aload_n dX2_forgetJet_5 rfl ?_
      refine AF.getfield dX2_forgetJet_6 fl_X2_24 (by assumption) rfl ?_
      refine AF.icmp_ge 27 dX2_forgetJet_9 (by decide) (fun hb => ?_) (fun hb => ?_)
      · refine AF.iload_n dX2_forgetJet_27 rfl ?_
        rw [show j = Fg.length by omega]
        exact AF.ireturn dX2_forgetJet_28 rfl ⟨rfl, by rw [← fgS_end, show Fg.length = j by omega]; exact hF0, hfr⟩
      · exact absurd (by rw [nI_leI (by omega) (by omega)]; omega) hb
    | succ k ih =>
      intro j F hj hF1 hfr
      have hF0 := hF1
      obtain ⟨sc, dl, jt, op, ⟨h0, h1, h2, h3, h4⟩, hr⟩ := hF1
      rw [fgS_len] at h0
      have qg : fg (fgS x Fg j) j = fg Fg j := by rw [fgS_get j (by omega), if_neg (by omega)]
      have hc := X2_forgetJetIn_ok hF0 ha j x (by rw [fgS_len]; omega) hx (by rw [qg]; exact fun k hk => Nat.lt_of_lt_of_le (hI j k hk).2.1 hn)
      rw [qg] at hc
      refine AF.iload_n dX2_forgetJet_4 rfl ?_
      refine AF.aload_n dX2_forgetJet_5 rfl ?_
      refine AF.getfield dX2_forgetJet_6 fl_X2_24 (by assumption) rfl ?_
      refine AF.icmp_ge 27 dX2_forgetJet_9 (by decide) (fun hb => ?_) (fun hb => ?_)
      · rw [nI_leI (by omega) (by omega)] at hb
        omega
      · refine AF.iload_n dX2_forgetJet_12 rfl ?_
        refine AF.aload_n dX2_forgetJet_13 rfl ?_
        refine AF.iload_n dX2_forgetJet_14 rfl ?_
        refine AF.iload_n dX2_forgetJet_15 rfl ?_
        refine AF.vw dX2_forgetJet_16 kv_X2_59 (hc) (by assumption) rfl rfl rfl (Nat.le_of_ble_eq_true rfl) (by decide) rfl (fun E F9 q => nomatch q.1) (fun v F q => ?_)
        obtain ⟨q, hF2, q2⟩ := q
        cases q
        refine AF.iadd dX2_forgetJet_19 ?_
        rw [nI_add]
        refine AF.istore_n dX2_forgetJet_20 (by decide) ?_
        refine AF.inc1 dX2_forgetJet_21 rfl (by decide) ?_
        refine AF.goto 4 dX2_forgetJet_24 (by decide) ?_
        refine ih (j + 1) F (by omega) ?_ (hfr.trans q2 (Nat.le_refl _) (Nat.le_refl _))
        rw [fgS, qg]
        exact hF2
  refine AF.iconst (nI 0) dX2_forgetJet_0 (by decide) ?_
  refine AF.istore_n dX2_forgetJet_1 (by decide) ?_
  refine AF.iconst (nI 0) dX2_forgetJet_2 (by decide) ?_
  refine AF.istore_n dX2_forgetJet_3 (by decide) ?_
  exact loop Fg.length 0 F (by omega) hF Fr.rf
theorem FR.cg {sc dl jt op sc' dl' jt' op' : Nat → Int32} (h : FR Fg sc dl jt op) (h1 : ∀ q, q < 5 → sc' q = sc q) (h2 : ∀ q, q < 40 → dl' q = dl q ∧ jt' q = jt q ∧ op' q = op q) : FR Fg sc' dl' jt' op' := by
  refine ⟨h.1, fun i hi => ?_⟩
  have q := h.2 i hi
  have := h.1
  refine ⟨q.1, by rw [h1 i (by omega)]; exact q.2.1, fun k hk => ?_⟩
  have := h2 (i * 8 + k) (by have := q.1; omega)
  rw [this.1, this.2.1, this.2.2]
  exact q.2.2 k hk
end
section
variable {G : GA} {F : AH} {a b : Nat} {Fg Fg0 : List (List Sp)}
set_option maxRecDepth 100000 in
theorem X2_copyFrom_ok (hF0 : FA G F a Fg0) (hF : FA G F b Fg) (ha : gN G ≤ a) (hab : a + 5 ≤ b ∨ b + 5 ≤ a) : AC G mX2_copyFrom 1 0 0 [.ref a, .ref b] F (FW G a Fg none F) := by
  obtain ⟨sc0, dl0, jt0, op0, ⟨h0, h1, h2, h3, h4⟩, -⟩ := hF0
  obtain ⟨sc, dl, jt, op, ⟨v0, v1, v2, v3, v4⟩, hr⟩ := hF
  refine AC.of [some (.ref a), some (.ref b)] rfl (by decide) (Nat.le_of_ble_eq_true rfl) rfl ?_
  have hfr : Fr a (a + 5) F F := Fr.rf
  refine AF.aload_n dX2_copyFrom_0 rfl ?_
  refine AF.getfield dX2_copyFrom_1 fl_X2_9 (by assumption) rfl ?_
  refine AF.iconst (nI 0) dX2_copyFrom_4 (by decide) ?_
  refine AF.aload_n dX2_copyFrom_5 rfl ?_
  refine AF.getfield dX2_copyFrom_6 fl_X2_9 (by assumption) rfl ?_
  refine AF.iconst (nI 0) dX2_copyFrom_9 (by decide) ?_
  refine AF.iconst (nI 5) dX2_copyFrom_10 (by decide) ?_
  refine AF.copyi dX2_copyFrom_11 ka_X2_28 v1 h1 (by omega) rfl rfl rfl (by omega) (by omega) (by decide) (by decide) (Nat.le_of_ble_eq_true rfl) (by decide) ?_
  intro F e9 h9 o9
  replace h0 := (o9 (a) (by omega)).trans h0
  replace h2 := (o9 (a + 2) (by omega)).trans h2
  replace h3 := (o9 (a + 3) (by omega)).trans h3
  replace h4 := (o9 (a + 4) (by omega)).trans h4
  replace v0 := (o9 (b) (by omega)).trans v0
  replace v1 := (o9 (b + 1) (by omega)).trans v1
  replace v2 := (o9 (b + 2) (by omega)).trans v2
  replace v3 := (o9 (b + 3) (by omega)).trans v3
  replace v4 := (o9 (b + 4) (by omega)).trans v4
  replace h1 := h9
  replace hfr := hfr.step e9 (by omega) (by omega) o9
  clear e9 h9 o9
  refine AF.aload_n dX2_copyFrom_14 rfl ?_
  refine AF.getfield dX2_copyFrom_15 fl_X2_15 (by assumption) rfl ?_
  refine AF.iconst (nI 0) dX2_copyFrom_18 (by decide) ?_
  refine AF.aload_n dX2_copyFrom_19 rfl ?_
  refine AF.getfield dX2_copyFrom_20 fl_X2_15 (by assumption) rfl ?_
  refine AF.iconst (nI 0) dX2_copyFrom_23 (by decide) ?_
  refine AF.bipush (nI 40) dX2_copyFrom_24 (by decide) ?_
  refine AF.copyi dX2_copyFrom_26 ka_X2_28 v2 h2 (by omega) rfl rfl rfl (by omega) (by omega) (by decide) (by decide) (Nat.le_of_ble_eq_true rfl) (by decide) ?_
  intro F e9 h9 o9
  replace h0 := (o9 (a) (by omega)).trans h0
  replace h1 := (o9 (a + 1) (by omega)).trans h1
  replace h3 := (o9 (a + 3) (by omega)).trans h3
  replace h4 := (o9 (a + 4) (by omega)).trans h4
  replace v0 := (o9 (b) (by omega)).trans v0
  replace v1 := (o9 (b + 1) (by omega)).trans v1
  replace v2 := (o9 (b + 2) (by omega)).trans v2
  replace v3 := (o9 (b + 3) (by omega)).trans v3
  replace v4 := (o9 (b + 4) (by omega)).trans v4
  replace h2 := h9
  replace hfr := hfr.step e9 (by omega) (by omega) o9
  clear e9 h9 o9
  refine AF.aload_n dX2_copyFrom_29 rfl ?_
  refine AF.getfield dX2_copyFrom_30 fl_X2_18 (by assumption) rfl ?_
  refine AF.iconst (nI 0) dX2_copyFrom_33 (by decide) ?_
  refine AF.aload_n dX2_copyFrom_34 rfl ?_
  refine AF.getfield dX2_copyFrom_35 fl_X2_18 (by assumption) rfl ?_
  refine AF.iconst (nI 0) dX2_copyFrom_38 (by decide) ?_
  refine AF.bipush (nI 40) dX2_copyFrom_39 (by decide) ?_
  refine AF.copyi dX2_copyFrom_41 ka_X2_28 v3 h3 (by omega) rfl rfl rfl (by omega) (by omega) (by decide) (by decide) (Nat.le_of_ble_eq_true rfl) (by decide) ?_
  intro F e9 h9 o9
  replace h0 := (o9 (a) (by omega)).trans h0
  replace h1 := (o9 (a + 1) (by omega)).trans h1
  replace h2 := (o9 (a + 2) (by omega)).trans h2
  replace h4 := (o9 (a + 4) (by omega)).trans h4
  replace v0 := (o9 (b) (by omega)).trans v0
  replace v1 := (o9 (b + 1) (by omega)).trans v1
  replace v2 := (o9 (b + 2) (by omega)).trans v2
  replace v3 := (o9 (b + 3) (by omega)).trans v3
  replace v4 := (o9 (b + 4) (by omega)).trans v4
  replace h3 := h9
  replace hfr := hfr.step e9 (by omega) (by omega) o9
  clear e9 h9 o9
  refine AF.aload_n dX2_copyFrom_44 rfl ?_
  refine AF.getfield dX2_copyFrom_45 fl_X2_21 (by assumption) rfl ?_
  refine AF.iconst (nI 0) dX2_copyFrom_48 (by decide) ?_
  refine AF.aload_n dX2_copyFrom_49 rfl ?_
  refine AF.getfield dX2_copyFrom_50 fl_X2_21 (by assumption) rfl ?_
  refine AF.iconst (nI 0) dX2_copyFrom_53 (by decide) ?_
  refine AF.bipush (nI 40) dX2_copyFrom_54 (by decide) ?_
  refine AF.copyi dX2_copyFrom_56 ka_X2_28 v4 h4 (by omega) rfl rfl rfl (by omega) (by omega) (by decide) (by decide) (Nat.le_of_ble_eq_true rfl) (by decide) ?_
  intro F e9 h9 o9
  replace h0 := (o9 (a) (by omega)).trans h0
  replace h1 := (o9 (a + 1) (by omega)).trans h1
  replace h2 := (o9 (a + 2) (by omega)).trans h2
  replace h3 := (o9 (a + 3) (by omega)).trans h3
  replace v0 := (o9 (b) (by omega)).trans v0
  replace v1 := (o9 (b + 1) (by omega)).trans v1
  replace v2 := (o9 (b + 2) (by omega)).trans v2
  replace v3 := (o9 (b + 3) (by omega)).trans v3
  replace v4 := (o9 (b + 4) (by omega)).trans v4
  replace h4 := h9
  replace hfr := hfr.step e9 (by omega) (by omega) o9
  clear e9 h9 o9
  refine AF.aload_n dX2_copyFrom_59 rfl ?_
  refine AF.aload_n dX2_copyFrom_60 rfl ?_
  refine AF.getfield dX2_copyFrom_61 fl_X2_24 (by assumption) rfl ?_
  refine AF.putfieldF dX2_copyFrom_64 fp_X2_24 h0 (by omega) (Nat.le_of_ble_eq_true rfl) rfl rfl (Or.inr fq_0_4) ?_
  intro F e9 h9 o9
  replace h1 := (o9 (a + 1) (by omega)).trans h1
  replace h2 := (o9 (a + 2) (by omega)).trans h2
  replace h3 := (o9 (a + 3) (by omega)).trans h3
  replace h4 := (o9 (a + 4) (by omega)).trans h4
  replace v0 := (o9 (b) (by omega)).trans v0
  replace v1 := (o9 (b + 1) (by omega)).trans v1
  replace v2 := (o9 (b + 2) (by omega)).trans v2
  replace v3 := (o9 (b + 3) (by omega)).trans v3
  replace v4 := (o9 (b + 4) (by omega)).trans v4
  replace h0 := h9
  replace hfr := hfr.step e9 (by omega) (by omega) o9
  clear e9 h9 o9
  exact AF.vreturn dX2_copyFrom_67 rfl ⟨rfl, ⟨_, _, _, _, ⟨h0, h1, h2, h3, h4⟩, hr.cg (fun q hq => by rw [pk_cpy_in (by omega) (by omega)]; congr 1; omega) (fun q hq => by rw [pk_cpy_in (by omega) (by omega), pk_cpy_in (by omega) (by omega), pk_cpy_in (by omega) (by omega)]; rw [show 0 + (q - 0) = q by omega]; exact ⟨rfl, rfl, rfl⟩)⟩, hfr⟩
end
/-- the cells from lo up to hi are new -/
def Mk (lo hi : Nat) (F0 F : AH) : Prop := F.1 = hi ∧ ∀ q, (q < lo ∨ hi ≤ q) → F.2 q = F0.2 q
section
variable {G : GA} {F : AH} {a : Nat}
set_option maxRecDepth 100000 in
theorem X2_init_ok (hF : F.2 a = some (.inr (0, [.null, .null, .null, .null, .int 0]))) (ha : gN G ≤ a) (hz : F.1 = a + 1) : AC G mX2_init 1 4 125 [.ref a] F (fun r F' => r = .inl none ∧ FA G F' a [] ∧ Mk a (a + 5) F F') := by
  refine AC.of [some (.ref a)] rfl (by decide) (Nat.le_of_ble_eq_true rfl) rfl ?_
  have h0 := hF
  have hmk : ∀ q, (q < a ∨ a + 5 ≤ q) → F.2 q = F.2 q := fun _ _ => rfl
  refine AF.aload_n dX2_init_0 rfl ?_
  refine AF.objInit dX2_init_1 ko_X2_3 (Nat.le_of_ble_eq_true rfl) (by decide) ?_
  refine AF.aload_n dX2_init_4 rfl ?_
  refine AF.iconst (nI 5) dX2_init_5 (by decide) ?_
  refine AF.newI (n := 5) (bc := 3) (bs := 120) dX2_init_6 aw_int (by first | rfl | decide) (by decide) ?_
  intro F e9 h9 o9
  rw [hz] at e9 h9 o9 ⊢
  replace hz : F.1 = a + 2 := e9
  replace h0 := (o9 (a) (by omega)).trans h0
  have h1 := h9
  replace hmk := fun q hq => (o9 q (by omega)).trans (hmk q hq)
  clear e9 h9 o9
  refine AF.putfieldF dX2_init_8 fp_X2_9 h0 (by omega) (Nat.le_of_ble_eq_true rfl) rfl rfl (Or.inl rfl) ?_
  intro F e9 h9 o9
  replace h1 := (o9 (a + 1) (by omega)).trans h1
  replace h0 := h9
  replace hmk := fun q hq => (o9 q (by omega)).trans (hmk q hq)
  replace hz := e9.trans hz
  clear e9 h9 o9
  refine AF.aload_n dX2_init_11 rfl ?_
  refine AF.bipush (nI 40) dX2_init_12 (by decide) ?_
  refine AF.newI (n := 40) (bc := 2) (bs := 80) dX2_init_14 aw_int (by first | rfl | decide) (by decide) ?_
  intro F e9 h9 o9
  rw [hz] at e9 h9 o9 ⊢
  replace hz : F.1 = a + 3 := e9
  replace h0 := (o9 (a) (by omega)).trans h0
  replace h1 := (o9 (a + 1) (by omega)).trans h1
  have h2 := h9
  replace hmk := fun q hq => (o9 q (by omega)).trans (hmk q hq)
  clear e9 h9 o9
  refine AF.putfieldF dX2_init_16 fp_X2_15 h0 (by omega) (Nat.le_of_ble_eq_true rfl) rfl rfl (Or.inl rfl) ?_
  intro F e9 h9 o9
  replace h1 := (o9 (a + 1) (by omega)).trans h1
  replace h2 := (o9 (a + 2) (by omega)).trans h2
  replace h0 := h9
  replace hmk := fun q hq => (o9 q (by omega)).trans (hmk q hq)
  replace hz := e9.trans hz
  clear e9 h9 o9
  refine AF.aload_n dX2_init_19 rfl ?_
  refine AF.bipush (nI 40) dX2_init_20 (by decide) ?_
  refine AF.newI (n := 40) (bc := 1) (bs := 40) dX2_init_22 aw_int (by first | rfl | decide) (by decide) ?_
  intro F e9 h9 o9
  rw [hz] at e9 h9 o9 ⊢
  replace hz : F.1 = a + 4 := e9
  replace h0 := (o9 (a) (by omega)).trans h0
  replace h1 := (o9 (a + 1) (by omega)).trans h1
  replace h2 := (o9 (a + 2) (by omega)).trans h2
  have h3 := h9
  replace hmk := fun q hq => (o9 q (by omega)).trans (hmk q hq)
  clear e9 h9 o9
  refine AF.putfieldF dX2_init_24 fp_X2_18 h0 (by omega) (Nat.le_of_ble_eq_true rfl) rfl rfl (Or.inl rfl) ?_
  intro F e9 h9 o9
  replace h1 := (o9 (a + 1) (by omega)).trans h1
  replace h2 := (o9 (a + 2) (by omega)).trans h2
  replace h3 := (o9 (a + 3) (by omega)).trans h3
  replace h0 := h9
  replace hmk := fun q hq => (o9 q (by omega)).trans (hmk q hq)
  replace hz := e9.trans hz
  clear e9 h9 o9
  refine AF.aload_n dX2_init_27 rfl ?_
  refine AF.bipush (nI 40) dX2_init_28 (by decide) ?_
  refine AF.newI (n := 40) (bc := 0) (bs := 0) dX2_init_30 aw_int (by first | rfl | decide) (by decide) ?_
  intro F e9 h9 o9
  rw [hz] at e9 h9 o9 ⊢
  replace hz : F.1 = a + 5 := e9
  replace h0 := (o9 (a) (by omega)).trans h0
  replace h1 := (o9 (a + 1) (by omega)).trans h1
  replace h2 := (o9 (a + 2) (by omega)).trans h2
  replace h3 := (o9 (a + 3) (by omega)).trans h3
  have h4 := h9
  replace hmk := fun q hq => (o9 q (by omega)).trans (hmk q hq)
  clear e9 h9 o9
  refine AF.putfieldF dX2_init_32 fp_X2_21 h0 (by omega) (Nat.le_of_ble_eq_true rfl) rfl rfl (Or.inl rfl) ?_
  intro F e9 h9 o9
  replace h1 := (o9 (a + 1) (by omega)).trans h1
  replace h2 := (o9 (a + 2) (by omega)).trans h2
  replace h3 := (o9 (a + 3) (by omega)).trans h3
  replace h4 := (o9 (a + 4) (by omega)).trans h4
  replace h0 := h9
  replace hmk := fun q hq => (o9 q (by omega)).trans (hmk q hq)
  replace hz := e9.trans hz
  clear e9 h9 o9
  refine AF.aload_n dX2_init_35 rfl ?_
  refine AF.iconst (nI 0) dX2_init_36 (by decide) ?_
  refine AF.putfieldF dX2_init_37 fp_X2_24 h0 (by omega) (Nat.le_of_ble_eq_true rfl) rfl rfl (Or.inr fq_0_4) ?_
  intro F e9 h9 o9
  replace h1 := (o9 (a + 1) (by omega)).trans h1
  replace h2 := (o9 (a + 2) (by omega)).trans h2
  replace h3 := (o9 (a + 3) (by omega)).trans h3
  replace h4 := (o9 (a + 4) (by omega)).trans h4
  replace h0 := h9
  replace hmk := fun q hq => (o9 q (by omega)).trans (hmk q hq)
  replace hz := e9.trans hz
  clear e9 h9 o9
  exact AF.vreturn dX2_init_40 rfl ⟨rfl, ⟨_, _, _, _, ⟨h0, h1, h2, h3, h4⟩, Nat.zero_le _, fun i hi => absurd hi (Nat.not_lt_zero _)⟩, hz, hmk⟩
set_option maxRecDepth 100000 in
theorem X3_init_ok (hF : F.2 a = some (.inr (1, [.null, .null, .int 0, .int 0, .int 0]))) (ha : gN G ≤ a) (hz : F.1 = a + 1) : AC G mX3_init 1 2 20 [.ref a] F (fun r F' => r = .inl none ∧ JA G F' a [] 40 0 ∧ Mk a (a + 3) F F') := by
  refine AC.of [some (.ref a)] rfl (by decide) (Nat.le_of_ble_eq_true rfl) rfl ?_
  have h0 := hF
  have hmk : ∀ q, (q < a ∨ a + 3 ≤ q) → F.2 q = F.2 q := fun _ _ => rfl
  refine AF.aload_n dX3_init_0 rfl ?_
  refine AF.objInit dX3_init_1 ko_X3_3 (Nat.le_of_ble_eq_true rfl) (by decide) ?_
  refine AF.aload_n dX3_init_4 rfl ?_
  refine AF.bipush (nI 10) dX3_init_5 (by decide) ?_
  refine AF.newI (n := 10) (bc := 1) (bs := 10) dX3_init_7 aw_int (by first | rfl | decide) (by decide) ?_
  intro F e9 h9 o9
  rw [hz] at e9 h9 o9 ⊢
  replace hz : F.1 = a + 2 := e9
  replace h0 := (o9 (a) (by omega)).trans h0
  have h1 := h9
  replace hmk := fun q hq => (o9 q (by omega)).trans (hmk q hq)
  clear e9 h9 o9
  refine AF.putfieldF dX3_init_9 fp_X3_9 h0 (by omega) (Nat.le_of_ble_eq_true rfl) rfl rfl (Or.inl rfl) ?_
  intro F e9 h9 o9
  replace h1 := (o9 (a + 1) (by omega)).trans h1
  replace h0 := h9
  replace hmk := fun q hq => (o9 q (by omega)).trans (hmk q hq)
  replace hz := e9.trans hz
  clear e9 h9 o9
  refine AF.aload_n dX3_init_12 rfl ?_
  refine AF.bipush (nI 10) dX3_init_13 (by decide) ?_
  refine AF.newI (n := 10) (bc := 0) (bs := 0) dX3_init_15 aw_int (by first | rfl | decide) (by decide) ?_
  intro F e9 h9 o9
  rw [hz] at e9 h9 o9 ⊢
  replace hz : F.1 = a + 3 := e9
  replace h0 := (o9 (a) (by omega)).trans h0
  replace h1 := (o9 (a + 1) (by omega)).trans h1
  have h2 := h9
  replace hmk := fun q hq => (o9 q (by omega)).trans (hmk q hq)
  clear e9 h9 o9
  refine AF.putfieldF dX3_init_17 fp_X3_15 h0 (by omega) (Nat.le_of_ble_eq_true rfl) rfl rfl (Or.inl rfl) ?_
  intro F e9 h9 o9
  replace h1 := (o9 (a + 1) (by omega)).trans h1
  replace h2 := (o9 (a + 2) (by omega)).trans h2
  replace h0 := h9
  replace hmk := fun q hq => (o9 q (by omega)).trans (hmk q hq)
  replace hz := e9.trans hz
  clear e9 h9 o9
  refine AF.aload_n dX3_init_20 rfl ?_
  refine AF.iconst (nI 0) dX3_init_21 (by decide) ?_
  refine AF.putfieldF dX3_init_22 fp_X3_18 h0 (by omega) (Nat.le_of_ble_eq_true rfl) rfl rfl (Or.inr fq_1_2) ?_
  intro F e9 h9 o9
  replace h1 := (o9 (a + 1) (by omega)).trans h1
  replace h2 := (o9 (a + 2) (by omega)).trans h2
  replace h0 := h9
  replace hmk := fun q hq => (o9 q (by omega)).trans (hmk q hq)
  replace hz := e9.trans hz
  clear e9 h9 o9
  refine AF.aload_n dX3_init_25 rfl ?_
  refine AF.bipush (nI 40) dX3_init_26 (by decide) ?_
  refine AF.putfieldF dX3_init_28 fp_X3_22 h0 (by omega) (Nat.le_of_ble_eq_true rfl) rfl rfl (Or.inr fq_1_3) ?_
  intro F e9 h9 o9
  replace h1 := (o9 (a + 1) (by omega)).trans h1
  replace h2 := (o9 (a + 2) (by omega)).trans h2
  replace h0 := h9
  replace hmk := fun q hq => (o9 q (by omega)).trans (hmk q hq)
  replace hz := e9.trans hz
  clear e9 h9 o9
  refine AF.aload_n dX3_init_31 rfl ?_
  refine AF.iconst (nI 0) dX3_init_32 (by decide) ?_
  refine AF.putfieldF dX3_init_33 fp_X3_25 h0 (by omega) (Nat.le_of_ble_eq_true rfl) rfl rfl (Or.inr fq_1_4) ?_
  intro F e9 h9 o9
  replace h1 := (o9 (a + 1) (by omega)).trans h1
  replace h2 := (o9 (a + 2) (by omega)).trans h2
  replace h0 := h9
  replace hmk := fun q hq => (o9 q (by omega)).trans (hmk q hq)
  replace hz := e9.trans hz
  clear e9 h9 o9
  exact AF.vreturn dX3_init_36 rfl ⟨rfl, ⟨_, _, ⟨h0, h1, h2⟩, Nat.zero_le _, fun i hi => absurd hi (Nat.not_lt_zero _)⟩, hz, hmk⟩
end

