/-! The stage: its beats and its forecasts. -/
def kpE (Fg : List (List Sp)) (bt : Nat) (E : List En) : List En := E.filter (fun p => decide (bt < p.2 + fln (fg Fg p.1)))
theorem kpE_le {Fg : List (List Sp)} {bt : Nat} {E : List En} : (kpE Fg bt E).length ≤ E.length := List.length_filter_le _ _
theorem kpE_take {Fg : List (List Sp)} {bt s : Nat} {E : List En} (h : s < E.length) : kpE Fg bt (E.take (s + 1)) = kpE Fg bt (E.take s) ++ (if bt < (en E s).2 + fln (fg Fg (en E s).1) then [en E s] else []) := by
  have e : en E s = E[s] := by rw [en, List.getD_eq_getElem?_getD, List.getElem?_eq_getElem h]; rfl
  rw [List.take_succ_eq_append_getElem h, kpE, List.filter_append, e]
  by_cases q : bt < (E[s]).2 + fln (fg Fg (E[s]).1)
  · rw [if_pos q, List.filter_cons_of_pos (p := fun p : En => decide (bt < p.2 + fln (fg Fg p.1))) (decide_eq_true q)]; rfl
  · rw [if_neg q, List.filter_cons_of_neg (p := fun p : En => decide (bt < p.2 + fln (fg Fg p.1))) (fun h => q (of_decide_eq_true h))]; rfl
theorem kpE_mem {Fg : List (List Sp)} {bt : Nat} {E : List En} {p : En} (h : p ∈ kpE Fg bt E) : p ∈ E := (List.mem_filter.mp h).1
theorem en_mem {E : List En} {e : Nat} (h : e < E.length) : en E e ∈ E := by
  rw [en, List.getD_eq_getElem?_getD, List.getElem?_eq_getElem h]; exact List.getElem_mem h
theorem mem_en {E : List En} {p : En} (h : p ∈ E) : ∃ e, e < E.length ∧ en E e = p := by
  obtain ⟨e, he, rfl⟩ := List.getElem_of_mem h
  exact ⟨e, he, by rw [en, List.getD_eq_getElem?_getD, List.getElem?_eq_getElem he]; rfl⟩
theorem fln_le {L : List Sp} (h : ∀ k, k < L.length → (g3 L k).1 ≤ 20) : fln L ≤ 20 := mxN_le _ h
section
variable {G : GA} {F : AH} {b : Nat} {σ : Sg}
set_option maxRecDepth 100000 in
theorem X7_dropFinishedEntries_ok (hS : SA G F b σ) (ha : gN G ≤ b) {B n : Nat} (hB : B ≤ 2 ^ 21) (hbt : σ.bt ≤ B) (hen : ∀ e, e < σ.E.length → (en σ.E e).1 < σ.Fg.length ∧ (en σ.E e).2 ≤ B + 30) (hFI : FI σ.Fg n) : AC G mX7_dropFinishedEntries 1 0 0 [.ref b] F (SW G b (σ.J, σ.cap, σ.w, σ.Fg, kpE σ.Fg σ.bt σ.E, σ.bt, σ.pum, σ.sht) (some (.int (nI (σ.E.length - (kpE σ.Fg σ.bt σ.E).length)))) F) := by
  obtain ⟨ef, es, ⟨s0, s9, s10⟩, hE, hJ, hG⟩ := hS
  have h6 := hE.1
  refine AC.of [some (.ref b), none, none, none] rfl (by decide) (Nat.le_of_ble_eq_true rfl) rfl ?_
  have hfr : Fr b (b + 11) F F := Fr.rf
  have loop : ∀ k j F1 ef1 es1, j + k = σ.E.length → SA0 G F1 b σ.E.length σ.bt σ.pum σ.sht ef1 es1 → JA G F1 (b + 1) σ.J σ.cap σ.w → FA G F1 (b + 4) σ.Fg → Fr b (b + 11) F F1 → (∀ i, i < (kpE σ.Fg σ.bt (σ.E.take j)).length → ef1 i = nI (en (kpE σ.Fg σ.bt (σ.E.take j)) i).1 ∧ es1 i = nI (en (kpE σ.Fg σ.bt (σ.E.take j)) i).2) → (∀ i, j ≤ i → ef1 i = ef i ∧ es1 i = es i) → AF G mX7_dropFinishedEntries 1 0 0 (SW G b (σ.J, σ.cap, σ.w, σ.Fg, kpE σ.Fg σ.bt σ.E, σ.bt, σ.pum, σ.sht) (some (.int (nI (σ.E.length - (kpE σ.Fg σ.bt σ.E).length)))) F) F1 9 [some (.ref b), some (.int (nI σ.E.length)), some (.int (nI (kpE σ.Fg σ.bt (σ.E.take j)).length)), some (.int (nI j))] [] := by
    intro k
    induction k with
    | zero =>
      intro j F ef1 es1 hj hS hJ hG hfr h1 h2
      obtain ⟨s0, s9, s10⟩ := hS
      have e : σ.E.take j = σ.E := by rw [List.take_of_length_le (by omega)]
      rw [e] at h1 ⊢
      have q9 : (kpE σ.Fg σ.bt σ.E).length ≤ σ.E.length := kpE_le
      refine AF.iload_n dX7_dropFinishedEntries_9 rfl ?_
      refine AF.iload_n dX7_dropFinishedEntries_10 rfl ?_
      refine AF.icmp_ge 56 dX7_dropFinishedEntries_11 (by decide) (fun hb => ?_) (fun hb => ?_)
      · refine AF.aload_n dX7_dropFinishedEntries_56 rfl ?_
        refine AF.iload_n dX7_dropFinishedEntries_57 rfl ?_
        refine AF.putfieldF dX7_dropFinishedEntries_58 fp_X7_32 s0 (by omega) (Nat.le_of_ble_eq_true rfl) rfl rfl (Or.inr fq_4_4) ?_
        intro F e9 h9 o9
        replace s9 := (o9 (b + 9) (by omega)).trans s9
        replace s10 := (o9 (b + 10) (by omega)).trans s10
        replace hJ := hJ.kept (fun q h1 h2 => o9 q (by omega))
        replace hG := hG.kept (fun q h1 h2 => o9 q (by omega))
        replace s0 := h9
        replace hfr := hfr.step e9 (by omega) (by omega) o9
        clear e9 h9 o9
        refine AF.iload_n dX7_dropFinishedEntries_61 rfl ?_
        refine AF.iload_n dX7_dropFinishedEntries_62 rfl ?_
        refine AF.isub dX7_dropFinishedEntries_63 ?_
        rw [pk_sub q9]
        exact AF.ireturn dX7_dropFinishedEntries_64 rfl ⟨rfl, ⟨ef1, es1, ⟨s0, s9, s10⟩, ⟨Nat.le_trans q9 h6, h1⟩, hJ, hG⟩, hfr⟩
      · exact absurd (by rw [nI_leI (by omega) (by omega)]; omega) hb
    | succ k ih =>
      intro j F ef1 es1 hj hS hJ hG hfr h1 h2
      have hS0 := hS
      obtain ⟨s0, s9, s10⟩ := hS
      obtain ⟨-, -, -, -, ⟨g0, -⟩, -⟩ := id hG
      obtain ⟨qi, qt⟩ := hen j (by omega)
      have qf : fln (fg σ.Fg (en σ.E j).1) ≤ 20 := fln_le (fun k hk => (hFI _ k hk).1)
      have qk := kpE_take (Fg := σ.Fg) (bt := σ.bt) (E := σ.E) (s := j) (by omega)
      have ql : (kpE σ.Fg σ.bt (σ.E.take j)).length ≤ j := Nat.le_trans kpE_le (by rw [List.length_take]; omega)
      have qv := h2 j (Nat.le_refl _)
      rw [(hE.2 j (by omega)).1, (hE.2 j (by omega)).2] at qv
      refine AF.iload_n dX7_dropFinishedEntries_9 rfl ?_
      refine AF.iload_n dX7_dropFinishedEntries_10 rfl ?_
      refine AF.icmp_ge 56 dX7_dropFinishedEntries_11 (by decide) (fun hb => ?_) (fun hb => ?_)
      · rw [nI_leI (by omega) (by omega)] at hb
        omega
      · refine AF.aload_n dX7_dropFinishedEntries_14 rfl ?_
        refine AF.getfield dX7_dropFinishedEntries_15 fl_X7_29 (by assumption) rfl ?_
        refine AF.iload_n dX7_dropFinishedEntries_18 rfl ?_
        refine AF.iaload (_) dX7_dropFinishedEntries_19 (by assumption) rfl (by omega) (by decide) ?_
        rw [qv.2]
        refine AF.aload_n dX7_dropFinishedEntries_20 rfl ?_
        refine AF.getfield dX7_dropFinishedEntries_21 fl_X7_21 (by assumption) rfl ?_
        refine AF.aload_n dX7_dropFinishedEntries_24 rfl ?_
        refine AF.getfield dX7_dropFinishedEntries_25 fl_X7_25 (by assumption) rfl ?_
        refine AF.iload_n dX7_dropFinishedEntries_28 rfl ?_
        refine AF.iaload (_) dX7_dropFinishedEntries_29 (by assumption) rfl (by omega) (by decide) ?_
        rw [qv.1]
        refine AF.v1 dX7_dropFinishedEntries_30 kv_X7_125 ((X2_lengthOf_ok hG hFI (en σ.E j).1 qi)) (by assumption) rfl rfl rfl (Nat.le_of_ble_eq_true rfl) (by decide) rfl ?_
        refine AF.iadd dX7_dropFinishedEntries_33 ?_
        rw [nI_add]
        refine AF.aload_n dX7_dropFinishedEntries_34 rfl ?_
        refine AF.getfield dX7_dropFinishedEntries_35 fl_X7_36 (by assumption) rfl ?_
        refine AF.icmp_le 50 dX7_dropFinishedEntries_38 (by decide) (fun hc => ?_) (fun hc => ?_)
        · rw [nI_leI (by omega) (by omega)] at hc
          rw [if_neg (by omega), List.append_nil] at qk
          refine AF.inc1 dX7_dropFinishedEntries_50 rfl (by decide) ?_
          refine AF.goto 9 dX7_dropFinishedEntries_53 (by decide) ?_
          rw [← qk] at h1 ⊢
          exact ih (j + 1) F ef1 es1 (by omega) hS0 hJ hG hfr h1 (fun i hi => h2 i (by omega))
        · rw [nI_leI (by omega) (by omega)] at hc
          rw [if_pos (by omega)] at qk
          refine AF.aload_n dX7_dropFinishedEntries_41 rfl ?_
          refine AF.iload_n dX7_dropFinishedEntries_42 rfl ?_
          refine AF.iload_n dX7_dropFinishedEntries_43 rfl ?_
          refine AF.vw dX7_dropFinishedEntries_44 kv_X7_92 (X7_moveEntry_ok hS0 ha j (kpE σ.Fg σ.bt (σ.E.take j)).length (by omega) (by omega)) (by assumption) rfl rfl rfl (Nat.le_of_ble_eq_true rfl) (by decide) rfl (fun E F9 q => nomatch q.1) (fun v F q => ?_)
          obtain ⟨q, hS, q2⟩ := q
          cases q
          replace hJ := hJ.fr q2 (by omega)
          replace hG := hG.fr q2 (by omega)
          replace hfr := hfr.trans q2 (by omega) (by omega)
          have hlen : (kpE σ.Fg σ.bt (σ.E.take (j + 1))).length = (kpE σ.Fg σ.bt (σ.E.take j)).length + 1 := by rw [qk]; simp
          refine AF.inc1 dX7_dropFinishedEntries_47 rfl (by decide) ?_
          refine AF.inc1 dX7_dropFinishedEntries_50 rfl (by decide) ?_
          refine AF.goto 9 dX7_dropFinishedEntries_53 (by decide) ?_
          rw [← hlen]
          refine ih (j + 1) F _ _ (by omega) hS hJ hG hfr (fun i hi => ?_) (fun i hi => by rw [upd_n (by omega), upd_n (by omega)]; exact h2 i (by omega))
          rw [hlen] at hi
          rw [qk, en_app]
          by_cases e : i = (kpE σ.Fg σ.bt (σ.E.take j)).length
          · rw [if_pos e, e, upd_s, upd_s]
            exact qv
          · rw [if_neg e, upd_n e, upd_n e]
            exact h1 i (by omega)
  refine AF.aload_n dX7_dropFinishedEntries_0 rfl ?_
  refine AF.getfield dX7_dropFinishedEntries_1 fl_X7_32 (by assumption) rfl ?_
  refine AF.istore_n dX7_dropFinishedEntries_4 (by decide) ?_
  refine AF.iconst (nI 0) dX7_dropFinishedEntries_5 (by decide) ?_
  refine AF.istore_n dX7_dropFinishedEntries_6 (by decide) ?_
  refine AF.iconst (nI 0) dX7_dropFinishedEntries_7 (by decide) ?_
  refine AF.istore_n dX7_dropFinishedEntries_8 (by decide) ?_
  exact loop σ.E.length 0 F ef es (by omega) ⟨s0, s9, s10⟩ hJ hG hfr (fun i hi => absurd hi (Nat.not_lt_zero _)) (fun i _ => ⟨rfl, rfl⟩)
/-- the stage when one beat has passed, and the entries that it ended -/
def nxJ (σ : Sg) : List Jt := hapE σ.Fg σ.E (σ.bt + 1) σ.J σ.E.length
def sup (J : List Jt) (cap : Nat) : Nat := if cap < dem J then cap else dem J
def nxB (σ : Sg) : Sg := (nxJ σ, σ.cap, σ.w, σ.Fg, kpE σ.Fg (σ.bt + 1) σ.E, σ.bt + 1, σ.pum + sup (nxJ σ) σ.cap, σ.sht + (dem (nxJ σ) - sup (nxJ σ) σ.cap))
theorem sup_le {J : List Jt} {cap : Nat} : sup J cap ≤ dem J := by unfold sup; split <;> omega
def nxE (σ : Sg) : Nat := σ.E.length - (kpE σ.Fg (σ.bt + 1) σ.E).length
theorem nxJ_len {σ : Sg} : (nxJ σ).length = σ.J.length := hapE_len _
theorem nxJ_JI {σ : Sg} {B : Nat} (h : SI σ B) : JI (nxJ σ) := hapE_JI h.1 h.2.2.1 _
theorem SI_nx {σ : Sg} {B : Nat} (h : SI σ B) (hB : B < 2 ^ 21) (h10 : σ.J.length ≤ 10) : SI (nxB σ) (B + 1) := by
  have hJ := nxJ_JI h
  have hd := dem_le hJ (by rw [nxJ_len]; exact h10)
  obtain ⟨-, h2, h3, h4, h5, h6, h7, -⟩ := h
  refine ⟨hJ, h2, ?_, fun e he => ?_, by show σ.bt + 1 ≤ B + 1; omega, ?_, ?_, by omega⟩
  · show FI σ.Fg (nxJ σ).length
    rw [nxJ_len]; exact h3
  · obtain ⟨i, hi, q⟩ := mem_en (kpE_mem (en_mem he))
    rw [show en (nxB σ).E e = en σ.E i from q.symm]
    have := h4 i hi
    exact ⟨this.1, by omega⟩
  · show σ.pum + sup (nxJ σ) σ.cap ≤ _
    unfold sup
    split <;> omega
  · show σ.sht + (dem (nxJ σ) - sup (nxJ σ) σ.cap) ≤ _
    omega
theorem nL_add {a c : Nat} (h : c < 2 ^ 31) : nL a + (nI c).toInt64 = nL (a + c) := by
  have e : (nI c).toInt64 = nL c := by
    apply Int64.toInt_inj.mp
    rw [Int32.toInt_toInt64, nI_toInt h, nL, Int64.toInt_ofNat_of_lt (by omega)]
  rw [e, nL, nL, nL, Int64.ofNat_add]
set_option maxRecDepth 100000 in
theorem X7_passOneBeat_ok (hS : SA G F b σ) (ha : gN G ≤ b) {B : Nat} (hI : SI σ B) (hB : B < 2 ^ 21) : AC G mX7_passOneBeat 2 0 0 [.ref b] F (SW G b (nxB σ) (some (.int (nI (nxE σ)))) F) := by
  have h10 : σ.J.length ≤ 10 := hS.choose_spec.choose_spec.2.2.1.choose_spec.choose_spec.2.1
  have h6 : σ.E.length ≤ 6 := hS.choose_spec.choose_spec.2.1.1
  have hJI := nxJ_JI hI
  have hd := dem_le hJI (by rw [nxJ_len]; exact h10)
  obtain ⟨-, i2, i3, i4, i5, i6, i7, -⟩ := hI
  refine AC.of [some (.ref b), none, none, none] rfl (by decide) (Nat.le_of_ble_eq_true rfl) rfl ?_
  have loop : ∀ k j F1, j + k = σ.E.length → SA G F1 b (hapE σ.Fg σ.E (σ.bt + 1) σ.J j, σ.cap, σ.w, σ.Fg, σ.E, σ.bt + 1, σ.pum, σ.sht) → Fr b (b + 11) F F1 → AF G mX7_passOneBeat 2 0 0 (SW G b (nxB σ) (some (.int (nI (nxE σ)))) F) F1 12 [some (.ref b), some (.int (nI j)), none, none] [] := by
    intro k
    induction k with
    | zero =>
      intro j F hj hS hfr
      have e : j = σ.E.length := by omega
      subst e
      obtain ⟨ef, es, ⟨s0, s9, s10⟩, hE, hJ, hG⟩ := id hS
      refine AF.iload_n dX7_passOneBeat_12 rfl ?_
      refine AF.aload_n dX7_passOneBeat_13 rfl ?_
      refine AF.getfield dX7_passOneBeat_14 fl_X7_32 (by assumption) rfl ?_
      refine AF.icmp_ge 31 dX7_passOneBeat_17 (by decide) (fun hb => ?_) (fun hb => ?_)
      · refine AF.aload_n dX7_passOneBeat_31 rfl ?_
        refine AF.vw dX7_passOneBeat_32 kv_X7_103 (X7_dropFinishedEntries_ok hS ha (B := B + 1) (by omega) (show σ.bt + 1 ≤ B + 1 by omega) (fun e he => ⟨(i4 e he).1, by have := (i4 e he).2; show (en σ.E e).2 ≤ _; omega⟩) i3) (by assumption) rfl rfl rfl (Nat.le_of_ble_eq_true rfl) (by decide) rfl (fun E F9 q => nomatch q.1) (fun v F q => ?_)
        obtain ⟨q, hS, q2⟩ := q
        cases q
        replace hfr := hfr.trans q2 (by omega) (by omega)
        obtain ⟨ef, es, ⟨s0, s9, s10⟩, hE, hJ, hG⟩ := hS
        obtain ⟨f, g, ⟨j0, j1, j2⟩, hr⟩ := id hJ
        refine AF.istore_n dX7_passOneBeat_35 (by decide) ?_
        refine AF.aload_n dX7_passOneBeat_36 rfl ?_
        refine AF.getfield dX7_passOneBeat_37 fl_X7_12 (by assumption) rfl ?_
        refine AF.v1 dX7_passOneBeat_40 kv_X7_106 ((show AC G mX3_sumOfOpenings 0 0 0 [.ref (b + 1)] F (AV (some (.int (nI (dem (nxJ σ))))) F) from X3_sum_ok hJ)) (by assumption) rfl rfl rfl (Nat.le_of_ble_eq_true rfl) (by decide) rfl ?_
        refine AF.istore_n dX7_passOneBeat_43 (by decide) ?_
        refine AF.aload_n dX7_passOneBeat_44 rfl ?_
        refine AF.getfield dX7_passOneBeat_45 fl_X7_12 (by assumption) rfl ?_
        refine AF.iload_n dX7_passOneBeat_48 rfl ?_
        refine AF.v1 dX7_passOneBeat_49 kv_X7_109 ((show AC G mX3_supplyFor 1 0 0 [.ref (b + 1), .int (nI (dem (nxJ σ)))] F (AV (some (.int (nI (sup (nxJ σ) σ.cap)))) F) from X3_supplyFor_ok hJ (dem (nxJ σ)) (by omega) (by show σ.cap < _; omega))) (by assumption) rfl rfl rfl (Nat.le_of_ble_eq_true rfl) (by decide) rfl ?_
        have qs := sup_le (J := nxJ σ) (cap := σ.cap)
        refine AF.istore_n dX7_passOneBeat_52 (by decide) ?_
        refine AF.aload_n dX7_passOneBeat_53 rfl ?_
        refine AF.dup dX7_passOneBeat_54 rfl ?_
        refine AF.getfield dX7_passOneBeat_55 fl_X7_39 (by assumption) rfl ?_
        refine AF.iload_n dX7_passOneBeat_58 rfl ?_
        refine AF.i2l dX7_passOneBeat_59 ?_
        refine AF.ladd dX7_passOneBeat_60 ?_
        rw [nL_add (by omega)]
        refine AF.putfieldF dX7_passOneBeat_61 fp_X7_39 s0 (by omega) (Nat.le_of_ble_eq_true rfl) rfl rfl (Or.inr fq_4_6) ?_
        intro F e9 h9 o9
        replace s9 := (o9 (b + 9) (by omega)).trans s9
        replace s10 := (o9 (b + 10) (by omega)).trans s10
        replace hJ := hJ.kept (fun q h1 h2 => o9 q (by omega))
        replace hG := hG.kept (fun q h1 h2 => o9 q (by omega))
        replace s0 := h9
        replace hfr := hfr.step e9 (by omega) (by omega) o9
        clear e9 h9 o9
        refine AF.aload_n dX7_passOneBeat_64 rfl ?_
        refine AF.dup dX7_passOneBeat_65 rfl ?_
        refine AF.getfield dX7_passOneBeat_66 fl_X7_43 (by assumption) rfl ?_
        refine AF.iload_n dX7_passOneBeat_69 rfl ?_
        refine AF.iload_n dX7_passOneBeat_70 rfl ?_
        refine AF.isub dX7_passOneBeat_71 ?_
        rw [pk_sub qs]
        refine AF.i2l dX7_passOneBeat_72 ?_
        refine AF.ladd dX7_passOneBeat_73 ?_
        rw [nL_add (by omega)]
        refine AF.putfieldF dX7_passOneBeat_74 fp_X7_43 s0 (by omega) (Nat.le_of_ble_eq_true rfl) rfl rfl (Or.inr fq_4_7) ?_
        intro F e9 h9 o9
        replace s9 := (o9 (b + 9) (by omega)).trans s9
        replace s10 := (o9 (b + 10) (by omega)).trans s10
        replace hJ := hJ.kept (fun q h1 h2 => o9 q (by omega))
        replace hG := hG.kept (fun q h1 h2 => o9 q (by omega))
        replace s0 := h9
        replace hfr := hfr.step e9 (by omega) (by omega) o9
        clear e9 h9 o9
        refine AF.iload_n dX7_passOneBeat_77 rfl ?_
        exact AF.ireturn dX7_passOneBeat_78 rfl ⟨rfl, ⟨_, _, ⟨s0, s9, s10⟩, hE, hJ, hG⟩, hfr⟩
      · exact absurd (Int32.le_refl _) hb
    | succ k ih =>
      intro j F hj hS hfr
      have hS0 := hS
      obtain ⟨ef, es, ⟨s0, s9, s10⟩, hE, hJ, hG⟩ := id hS
      refine AF.iload_n dX7_passOneBeat_12 rfl ?_
      refine AF.aload_n dX7_passOneBeat_13 rfl ?_
      refine AF.getfield dX7_passOneBeat_14 fl_X7_32 (by assumption) rfl ?_
      refine AF.icmp_ge 31 dX7_passOneBeat_17 (by decide) (fun hb => ?_) (fun hb => ?_)
      · have hb : nI σ.E.length ≤ nI j := hb
        rw [nI_leI (by omega) (by omega)] at hb
        omega
      · refine AF.aload_n dX7_passOneBeat_20 rfl ?_
        refine AF.iload_n dX7_passOneBeat_21 rfl ?_
        refine AF.vw dX7_passOneBeat_22 kv_X7_100 (X7_happenDueSteps_ok hS0 ha (B := B + 1) (by omega) (show σ.bt + 1 ≤ B + 1 by omega) (fun e he => ⟨(i4 e he).1, by have := (i4 e he).2; show (en σ.E e).2 ≤ _; omega⟩) (by show FI σ.Fg (hapE _ _ _ _ _).length; rw [hapE_len]; exact i3) j (by show j < σ.E.length; omega)) (by assumption) rfl rfl rfl (Nat.le_of_ble_eq_true rfl) (by decide) rfl (fun E F9 q => nomatch q.1) (fun v F q => ?_)
        obtain ⟨q, hS, q2⟩ := q
        cases q
        refine AF.inc1 dX7_passOneBeat_25 rfl (by decide) ?_
        refine AF.goto 12 dX7_passOneBeat_28 (by decide) ?_
        exact ih (j + 1) F (by omega) hS (hfr.trans q2 (Nat.le_refl _) (Nat.le_refl _))
  obtain ⟨ef, es, ⟨s0, s9, s10⟩, hE, hJ, hG⟩ := hS
  have hfr : Fr b (b + 11) F F := Fr.rf
  refine AF.aload_n dX7_passOneBeat_0 rfl ?_
  refine AF.dup dX7_passOneBeat_1 rfl ?_
  refine AF.getfield dX7_passOneBeat_2 fl_X7_36 (by assumption) rfl ?_
  refine AF.iconst (nI 1) dX7_passOneBeat_5 (by decide) ?_
  refine AF.iadd dX7_passOneBeat_6 ?_
  rw [nI_add]
  refine AF.putfieldF dX7_passOneBeat_7 fp_X7_36 s0 (by omega) (Nat.le_of_ble_eq_true rfl) rfl rfl (Or.inr fq_4_5) ?_
  intro F e9 h9 o9
  replace s9 := (o9 (b + 9) (by omega)).trans s9
  replace s10 := (o9 (b + 10) (by omega)).trans s10
  replace hJ := hJ.kept (fun q h1 h2 => o9 q (by omega))
  replace hG := hG.kept (fun q h1 h2 => o9 q (by omega))
  replace s0 := h9
  replace hfr := hfr.step e9 (by omega) (by omega) o9
  clear e9 h9 o9
  refine AF.iconst (nI 0) dX7_passOneBeat_10 (by decide) ?_
  refine AF.istore_n dX7_passOneBeat_11 (by decide) ?_
  exact loop σ.E.length 0 F (by omega) ⟨ef, es, ⟨s0, s9, s10⟩, hE, hJ, hG⟩ hfr
end

