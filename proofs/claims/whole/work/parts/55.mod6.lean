/-! The reference: beats. -/
theorem SR.btn {σ : Sg} {f : Nat → Int32} {n : Nat} (h : SR σ f) : SR (σ.J, σ.cap, σ.w, σ.Fg, σ.E, n, σ.pum, σ.sht) (upd f 5 (nI n)) := by
  obtain ⟨⟨a0, a1, a2, a3, a4, a5, a6, a7⟩, hJ, hG, hE⟩ := h
  exact ⟨⟨a0, a1, a2, a3, a4, upd_s, a6, a7⟩, hJ.kept (fun q h1 h2 => upd_n (by omega)), hG.kept (fun q h1 h2 => upd_n (by omega)), hE.kept (fun q h1 h2 => upd_n (by omega))⟩
theorem SR.pumn {σ : Sg} {f : Nat → Int32} {n : Nat} (h : SR σ f) : SR (σ.J, σ.cap, σ.w, σ.Fg, σ.E, σ.bt, n, σ.sht) (upd f 6 (nI n)) := by
  obtain ⟨⟨a0, a1, a2, a3, a4, a5, a6, a7⟩, hJ, hG, hE⟩ := h
  exact ⟨⟨a0, a1, a2, a3, a4, a5, upd_s, a7⟩, hJ.kept (fun q h1 h2 => upd_n (by omega)), hG.kept (fun q h1 h2 => upd_n (by omega)), hE.kept (fun q h1 h2 => upd_n (by omega))⟩
theorem SR.shtn {σ : Sg} {f : Nat → Int32} {n : Nat} (h : SR σ f) : SR (σ.J, σ.cap, σ.w, σ.Fg, σ.E, σ.bt, σ.pum, n) (upd f 7 (nI n)) := by
  obtain ⟨⟨a0, a1, a2, a3, a4, a5, a6, a7⟩, hJ, hG, hE⟩ := h
  exact ⟨⟨a0, a1, a2, a3, a4, a5, a6, upd_s⟩, hJ.kept (fun q h1 h2 => upd_n (by omega)), hG.kept (fun q h1 h2 => upd_n (by omega)), hE.kept (fun q h1 h2 => upd_n (by omega))⟩
theorem en_get {E : List En} {c : Nat} (h : c < E.length) : en E c = E[c] := by rw [en, List.getD_eq_getElem?_getD, List.getElem?_eq_getElem h]; rfl
/-- the queue when the entries from c on were looked at -/
def kpC (Fg : List (List Sp)) (bt : Nat) (E : List En) (c : Nat) : List En := E.take c ++ kpE Fg bt (E.drop c)
theorem kpC_all {Fg : List (List Sp)} {bt : Nat} {E : List En} : kpC Fg bt E E.length = E := by simp [kpC, kpE]
theorem kpC_0 {Fg : List (List Sp)} {bt : Nat} {E : List En} : kpC Fg bt E 0 = kpE Fg bt E := by simp [kpC]
theorem kpC_len {Fg : List (List Sp)} {bt c : Nat} {E : List En} (h : c ≤ E.length) : (kpC Fg bt E c).length = c + (kpE Fg bt (E.drop c)).length := by
  rw [kpC, List.length_append, List.length_take, Nat.min_eq_left h]
theorem kpC_le {Fg : List (List Sp)} {bt c : Nat} {E : List En} (h : c ≤ E.length) : (kpC Fg bt E c).length ≤ E.length := by
  rw [kpC_len h]
  have : (kpE Fg bt (E.drop c)).length ≤ _ := kpE_le
  rw [List.length_drop] at this
  omega
theorem kpC_succ {Fg : List (List Sp)} {bt c : Nat} {E : List En} (h : c < E.length) : kpC Fg bt E (c + 1) = E.take c ++ (en E c :: kpE Fg bt (E.drop (c + 1))) := by
  rw [kpC, List.take_succ_eq_append_getElem h, en_get h, List.append_assoc]; rfl
theorem kpC_at {Fg : List (List Sp)} {bt c : Nat} {E : List En} (h : c < E.length) : en (kpC Fg bt E (c + 1)) c = en E c := by
  rw [kpC_succ h, en, List.getD_eq_getElem?_getD, List.getElem?_append_right (by rw [List.length_take]; omega), List.length_take, Nat.min_eq_left (by omega), Nat.sub_self]
  rfl
theorem kpE_cons {Fg : List (List Sp)} {bt : Nat} {E : List En} {p : En} : kpE Fg bt (p :: E) = (if bt < p.2 + fln (fg Fg p.1) then [p] else []) ++ kpE Fg bt E := by
  unfold kpE
  by_cases h : bt < p.2 + fln (fg Fg p.1)
  · rw [if_pos h, List.filter_cons_of_pos (p := fun p : En => decide (bt < p.2 + fln (fg Fg p.1))) (decide_eq_true h)]; rfl
  · rw [if_neg h, List.filter_cons_of_neg (p := fun p : En => decide (bt < p.2 + fln (fg Fg p.1))) (fun q => h (of_decide_eq_true q))]; rfl
theorem kpC_prev {Fg : List (List Sp)} {bt c : Nat} {E : List En} (h : c < E.length) : kpC Fg bt E c = E.take c ++ ((if bt < (en E c).2 + fln (fg Fg (en E c).1) then [en E c] else []) ++ kpE Fg bt (E.drop (c + 1))) := by
  rw [kpC, List.drop_eq_getElem_cons h, kpE_cons, en_get h]
theorem kpC_in {Fg : List (List Sp)} {bt c : Nat} {E : List En} (h : c < E.length) (e : bt < (en E c).2 + fln (fg Fg (en E c).1)) : kpC Fg bt E (c + 1) = kpC Fg bt E c := by
  rw [kpC_succ h, kpC_prev h, if_pos e]; rfl
theorem kpC_out {Fg : List (List Sp)} {bt c : Nat} {E : List En} (h : c < E.length) (e : ¬ bt < (en E c).2 + fln (fg Fg (en E c).1)) : (kpC Fg bt E (c + 1)).eraseIdx c = kpC Fg bt E c := by
  rw [kpC_succ h, kpC_prev h, if_neg e, List.eraseIdx_append_of_length_le (by rw [List.length_take]; omega), List.length_take, Nat.min_eq_left (by omega), Nat.sub_self]
  rfl
section
variable {G : GA} {F : AH} {m : Nat} {g f : Nat → Int32} {A : Nat → Nat → Int32} {σ : Sg} {B : Nat} {Fg : List (List Sp)}
set_option maxRecDepth 100000 in
set_option maxHeartbeats 4000000 in
theorem X9_oneBeat_ok (hM : MA G F m g f A) (ha : gN G ≤ m) (hS : SR σ f) (hI : SI σ B) (hB : B < 2 ^ 21) : AC G mX9_oneBeat 3 0 0 [.ref m] F (MS G m (nxB σ) g A (some (.int (nI (nxE σ)))) F) := by
  have hn := hS.2.1.1
  have h5 := hS.2.2.1.1
  have h6 := hS.2.2.2.1
  have hN := SI_nx hI hB hn
  have hJI := nxJ_JI hI
  have hd := dem_le hJI (by rw [nxJ_len]; exact hn)
  have hFI := hI.2.2.1
  have hen := hI.2.2.2.1
  have hbt := hI.2.2.2.2.1
  obtain ⟨h0, h1, hR⟩ := hM
  refine AC.of [some (.ref m), none, none, none] rfl (by decide) (Nat.le_of_ble_eq_true rfl) rfl ?_
  have hfr : Fr m (m + 9) F F := Fr.rf
  have hIk : SI (nxJ σ, σ.cap, σ.w, σ.Fg, kpE σ.Fg (σ.bt + 1) σ.E, σ.bt + 1, σ.pum, σ.sht) (B + 1) := ⟨hN.1, hN.2.1, hN.2.2.1, hN.2.2.2.1, hN.2.2.2.2.1, by have := hI.2.2.2.2.2.1; show σ.pum ≤ _; omega, by have := hI.2.2.2.2.2.2.1; show σ.sht ≤ _; omega, hN.2.2.2.2.2.2.2⟩
  have hIk2 : SI (nxJ σ, σ.cap, σ.w, σ.Fg, kpE σ.Fg (σ.bt + 1) σ.E, σ.bt + 1, σ.pum + sup (nxJ σ) σ.cap, σ.sht) (B + 1) := ⟨hN.1, hN.2.1, hN.2.2.1, hN.2.2.2.1, hN.2.2.2.2.1, hN.2.2.2.2.2.1, hIk.2.2.2.2.2.2.1, hN.2.2.2.2.2.2.2⟩
  have hsup := sup_le (J := nxJ σ) (cap := σ.cap)
  have p3 : ∀ F1 f1 z2 z3, SR (nxJ σ, σ.cap, σ.w, σ.Fg, kpE σ.Fg (σ.bt + 1) σ.E, σ.bt + 1, σ.pum, σ.sht) f1 → MA G F1 m g f1 A → Fr m (m + 9) F F1 → AF G mX9_oneBeat 3 0 0 (MS G m (nxB σ) g A (some (.int (nI (nxE σ)))) F) F1 161 [some (.ref m), some (.int (nI (nxE σ))), z2, z3] [] := by
    intro F1 f1 z2 z3 hS1 hM hfr
    have hG1 := X9_given_ok hM hS1 hIk
    have e6 : f1 6 = nI σ.pum := hS1.1.2.2.2.2.2.2.1
    obtain ⟨h0, h1, hR⟩ := hM
    refine AF.aload_n dX9_oneBeat_161 rfl ?_
    refine AF.getfield dX9_oneBeat_162 fl_X9_7 (by assumption) rfl ?_
    refine AF.bipush (nI 6) dX9_oneBeat_165 (by decide) ?_
    refine AF.dup2 dX9_oneBeat_167 rfl rfl ?_
    refine AF.iaload (_) dX9_oneBeat_168 (by assumption) rfl (by omega) (by decide) ?_
    refine AF.aload_n dX9_oneBeat_169 rfl ?_
    rw [e6]
    refine AF.v1 dX9_oneBeat_170 kv_X9_118 ((show AC G mX9_given 2 0 0 [.ref m] F1 (AV (some (.int (nI (sup (nxJ σ) σ.cap)))) F1) from hG1)) (by assumption) rfl rfl rfl (Nat.le_of_ble_eq_true rfl) (by decide) rfl ?_
    refine AF.iadd dX9_oneBeat_173 ?_
    rw [nI_add]
    refine AF.iastoreF (_) dX9_oneBeat_174 h1 (by omega) rfl (by omega) (by decide) ?_
    intro F e9 h9 o9
    replace h0 := (o9 (m) (by omega)).trans h0
    replace hR := hR.kept (fun q h1 h2 => o9 q (by omega))
    replace h1 := h9
    replace hfr := hfr.step e9 (by omega) (by omega) o9
    clear e9 h9 o9
    have hS2 := hS1.pumn (n := σ.pum + sup (nxJ σ) σ.cap)
    have hA2 := X9_asked_ok ⟨h0, h1, hR⟩ hS2
    have hG2 := X9_given_ok ⟨h0, h1, hR⟩ hS2 hIk2
    have e7 : upd f1 6 (nI (σ.pum + sup (nxJ σ) σ.cap)) 7 = nI σ.sht := hS1.1.2.2.2.2.2.2.2
    refine AF.aload_n dX9_oneBeat_175 rfl ?_
    refine AF.getfield dX9_oneBeat_176 fl_X9_7 (by assumption) rfl ?_
    refine AF.bipush (nI 7) dX9_oneBeat_179 (by decide) ?_
    refine AF.dup2 dX9_oneBeat_181 rfl rfl ?_
    refine AF.iaload (_) dX9_oneBeat_182 (by assumption) rfl (by omega) (by decide) ?_
    refine AF.aload_n dX9_oneBeat_183 rfl ?_
    rw [e7]
    refine AF.v1 dX9_oneBeat_184 kv_X9_64 ((show AC G mX9_asked 1 0 0 [.ref m] F (AV (some (.int (nI (dem (nxJ σ))))) F) from hA2)) (by assumption) rfl rfl rfl (Nat.le_of_ble_eq_true rfl) (by decide) rfl ?_
    refine AF.aload_n dX9_oneBeat_187 rfl ?_
    refine AF.v1 dX9_oneBeat_188 kv_X9_118 ((show AC G mX9_given 2 0 0 [.ref m] F (AV (some (.int (nI (sup (nxJ σ) σ.cap)))) F) from hG2)) (by assumption) rfl rfl rfl (Nat.le_of_ble_eq_true rfl) (by decide) rfl ?_
    refine AF.isub dX9_oneBeat_191 ?_
    rw [pk_sub hsup]
    refine AF.iadd dX9_oneBeat_192 ?_
    rw [nI_add]
    refine AF.iastoreF (_) dX9_oneBeat_193 h1 (by omega) rfl (by omega) (by decide) ?_
    intro F e9 h9 o9
    replace h0 := (o9 (m) (by omega)).trans h0
    replace hR := hR.kept (fun q h1 h2 => o9 q (by omega))
    replace h1 := h9
    replace hfr := hfr.step e9 (by omega) (by omega) o9
    clear e9 h9 o9
    refine AF.iload_n dX9_oneBeat_194 rfl ?_
    exact AF.ireturn dX9_oneBeat_195 rfl ⟨rfl, _, hS2.shtn, ⟨h0, h1, hR⟩, hfr⟩
  have p2 : ∀ c F1 f1 z3, c ≤ σ.E.length → SR (nxJ σ, σ.cap, σ.w, σ.Fg, kpC σ.Fg (σ.bt + 1) σ.E c, σ.bt + 1, σ.pum, σ.sht) f1 → MA G F1 m g f1 A → Fr m (m + 9) F F1 → AF G mX9_oneBeat 3 0 0 (MS G m (nxB σ) g A (some (.int (nI (nxE σ)))) F) F1 126 [some (.ref m), some (.int (nI (σ.E.length - (kpC σ.Fg (σ.bt + 1) σ.E c).length))), some (.int (nI c - 1)), z3] [] := by
    intro c
    induction c with
    | zero =>
      intro F1 f1 z3 hc hS1 hM hfr
      rw [kpC_0] at hS1 ⊢
      refine AF.iload_n dX9_oneBeat_126 rfl ?_
      refine AF.if_lt 161 dX9_oneBeat_127 (by decide) (fun hb => ?_) (fun hb => ?_)
      · exact p3 F1 f1 _ _ hS1 hM hfr
      · exact absurd (show nI 0 - 1 < (0 : Int32) by decide) hb
    | succ c ih =>
      intro F1 f1 z3 hc hS1 hM hfr
      have hM1 := hM
      have hcE : c < σ.E.length := hc
      have hce := hS1.2.2.2.2 c (show c < (kpC σ.Fg (σ.bt + 1) σ.E (c + 1)).length by rw [kpC_len hc]; omega)
      have hat : en (Sg.E (nxJ σ, σ.cap, σ.w, σ.Fg, kpC σ.Fg (σ.bt + 1) σ.E (c + 1), σ.bt + 1, σ.pum, σ.sht)) c = en σ.E c := kpC_at hcE
      rw [hat] at hce
      have hfl : fln (fg σ.Fg (en σ.E c).1) ≤ 20 := fln_le (fun k hk => (hFI _ k hk).1)
      have hD := X9_due_ok (σ := σ) hM1 hS1.2.2.1 hFI c (en σ.E c).1 (en σ.E c).2 (by omega) (hen c hcE).1 hce.1 hce.2
      have he2 := (hen c hcE).2
      have hle := kpC_le (Fg := σ.Fg) (bt := σ.bt + 1) hc
      have hle2 := kpC_le (Fg := σ.Fg) (bt := σ.bt + 1) (E := σ.E) (c := c) (by omega)
      have e5 : f1 5 = nI (σ.bt + 1) := hS1.1.2.2.2.2.2.1
      obtain ⟨h0, h1, hR⟩ := hM
      refine AF.iload_n dX9_oneBeat_126 rfl ?_
      rw [nI_pred]
      refine AF.if_lt 161 dX9_oneBeat_127 (by decide) (fun hb => ?_) (fun hb => ?_)
      · exact absurd hb (nI_pos (by omega))
      · refine AF.aload_n dX9_oneBeat_130 rfl ?_
        refine AF.iload_n dX9_oneBeat_131 rfl ?_
        refine AF.v1 dX9_oneBeat_132 kv_X9_115 (hD) (by assumption) rfl rfl rfl (Nat.le_of_ble_eq_true rfl) (by decide) rfl ?_
        refine AF.aload_n dX9_oneBeat_135 rfl ?_
        refine AF.getfield dX9_oneBeat_136 fl_X9_7 (by assumption) rfl ?_
        refine AF.iconst (nI 5) dX9_oneBeat_139 (by decide) ?_
        refine AF.iaload (_) dX9_oneBeat_140 (by assumption) rfl (by omega) (by decide) ?_
        rw [e5]
        refine AF.icmp_le 147 dX9_oneBeat_141 (by decide) (fun hc1 => ?_) (fun hc1 => ?_)
        · rw [nI_leI (by omega) (by omega)] at hc1
          have e9 := kpC_out (Fg := σ.Fg) (bt := σ.bt + 1) hcE (by omega)
          have hl9 : (kpC σ.Fg (σ.bt + 1) σ.E c).length = (kpC σ.Fg (σ.bt + 1) σ.E (c + 1)).length - 1 := by rw [← e9, List.length_eraseIdx_of_lt (by rw [kpC_len hc]; omega)]
          have hl8 := kpC_len (Fg := σ.Fg) (bt := σ.bt + 1) hc
          refine AF.aload_n dX9_oneBeat_147 rfl ?_
          refine AF.iload_n dX9_oneBeat_148 rfl ?_
          refine AF.vw dX9_oneBeat_149 kv_X9_111 (X9_drops_ok hM1 ha hS1 c (show c < (kpC σ.Fg (σ.bt + 1) σ.E (c + 1)).length by omega)) (by assumption) rfl rfl rfl (Nat.le_of_ble_eq_true rfl) (by decide) rfl (fun E F9 q => nomatch q.1) (fun v F q => ?_)
          obtain ⟨q, f', hS2, hM, q2⟩ := q
          cases q
          have hS2 : SR (nxJ σ, σ.cap, σ.w, σ.Fg, (kpC σ.Fg (σ.bt + 1) σ.E (c + 1)).eraseIdx c, σ.bt + 1, σ.pum, σ.sht) f' := hS2
          rw [e9] at hS2
          refine AF.inc1 dX9_oneBeat_152 rfl (by decide) ?_
          rw [show σ.E.length - (kpC σ.Fg (σ.bt + 1) σ.E (c + 1)).length + 1 = σ.E.length - (kpC σ.Fg (σ.bt + 1) σ.E c).length by omega]
          refine AF.iinc dX9_oneBeat_155 rfl (by decide) ?_
          rw [iinc_m1]
          refine AF.goto 126 dX9_oneBeat_158 (by decide) ?_
          exact ih F f' z3 (by omega) hS2 hM (hfr.trans q2 (Nat.le_refl _) (Nat.le_refl _))
        · rw [nI_leI (by omega) (by omega)] at hc1
          have e9 := kpC_in (Fg := σ.Fg) (bt := σ.bt + 1) hcE (by omega)
          rw [e9] at hS1 ⊢
          refine AF.goto 155 dX9_oneBeat_144 (by decide) ?_
          refine AF.iinc dX9_oneBeat_155 rfl (by decide) ?_
          rw [iinc_m1]
          refine AF.goto 126 dX9_oneBeat_158 (by decide) ?_
          exact ih F1 f1 z3 (by omega) hS1 hM1 hfr
  have p1 : ∀ k e F1 f1 z2 z3, e + k = σ.E.length → SR (hapE σ.Fg σ.E (σ.bt + 1) σ.J e, σ.cap, σ.w, σ.Fg, σ.E, σ.bt + 1, σ.pum, σ.sht) f1 → MA G F1 m g f1 A → Fr m (m + 9) F F1 → AF G mX9_oneBeat 3 0 0 (MS G m (nxB σ) g A (some (.int (nI (nxE σ)))) F) F1 12 [some (.ref m), some (.int (nI e)), z2, z3] [] := by
    intro k
    induction k with
    | zero =>
      intro e F1 f1 z2 z3 he hS1 hM hfr
      have hM1 := hM
      have e2 : f1 2 = nI σ.E.length := hS1.1.2.2.1
      obtain ⟨h0, h1, hR⟩ := hM
      refine AF.iload_n dX9_oneBeat_12 rfl ?_
      refine AF.aload_n dX9_oneBeat_13 rfl ?_
      refine AF.getfield dX9_oneBeat_14 fl_X9_7 (by assumption) rfl ?_
      refine AF.iconst (nI 2) dX9_oneBeat_17 (by decide) ?_
      refine AF.iaload (_) dX9_oneBeat_18 (by assumption) rfl (by omega) (by decide) ?_
      rw [e2]
      refine AF.icmp_ge 115 dX9_oneBeat_19 (by decide) (fun hb => ?_) (fun hb => ?_)
      · rw [show e = σ.E.length by omega] at hS1
        refine AF.iconst (nI 0) dX9_oneBeat_115 (by decide) ?_
        refine AF.istore_n dX9_oneBeat_116 (by decide) ?_
        refine AF.aload_n dX9_oneBeat_117 rfl ?_
        refine AF.getfield dX9_oneBeat_118 fl_X9_7 (by assumption) rfl ?_
        refine AF.iconst (nI 2) dX9_oneBeat_121 (by decide) ?_
        refine AF.iaload (_) dX9_oneBeat_122 (by assumption) rfl (by omega) (by decide) ?_
        rw [e2]
        refine AF.iconst (1) dX9_oneBeat_123 (by decide) ?_
        refine AF.isub dX9_oneBeat_124 ?_
        refine AF.istore_n dX9_oneBeat_125 (by decide) ?_
        have h9 := p2 σ.E.length F1 f1 z3 (Nat.le_refl _) (by rw [kpC_all]; exact hS1) hM1 hfr
        rw [kpC_all, Nat.sub_self] at h9
        exact h9
      · exact absurd (by rw [nI_leI (by omega) (by omega)]; omega) hb
    | succ k ih =>
      intro e F1 f1 z2 z3 he hS1 hM hfr
      have heE : e < σ.E.length := by omega
      obtain ⟨hei, het⟩ := hen e heE
      have h8 := (hS.2.2.1.2 _ hei).1
      have inner : ∀ k2 j F1 f1, j + k2 = (fg σ.Fg (en σ.E e).1).length → SR (hapK (fg σ.Fg (en σ.E e).1) (en σ.E e).2 (σ.bt + 1) (hapE σ.Fg σ.E (σ.bt + 1) σ.J e) j, σ.cap, σ.w, σ.Fg, σ.E, σ.bt + 1, σ.pum, σ.sht) f1 → MA G F1 m g f1 A → Fr m (m + 9) F F1 → AF G mX9_oneBeat 3 0 0 (MS G m (nxB σ) g A (some (.int (nI (nxE σ)))) F) F1 37 [some (.ref m), some (.int (nI e)), some (.int (nI (en σ.E e).1)), some (.int (nI j))] [] := by
        intro k2
        induction k2 with
        | zero =>
          intro j F1 f1 hj hS1 hM hfr
          have hV := X9_steps_ok hM (en σ.E e).1 (by omega)
          have e1 : f1 (28 + 25 * (en σ.E e).1) = nI (fg σ.Fg (en σ.E e).1).length := (hS1.2.2.1.2 _ hei).2.1
          rw [e1] at hV
          have hM1 := hM
          obtain ⟨h0, h1, hR⟩ := hM
          refine AF.iload_n dX9_oneBeat_37 rfl ?_
          refine AF.aload_n dX9_oneBeat_38 rfl ?_
          refine AF.iload_n dX9_oneBeat_39 rfl ?_
          refine AF.v1 dX9_oneBeat_40 kv_X9_77 (hV) (by assumption) rfl rfl rfl (Nat.le_of_ble_eq_true rfl) (by decide) rfl ?_
          refine AF.icmp_ge 109 dX9_oneBeat_43 (by decide) (fun hb => ?_) (fun hb => ?_)
          · rw [show j = (fg σ.Fg (en σ.E e).1).length by omega] at hS1 ⊢
            refine AF.inc1 dX9_oneBeat_109 rfl (by decide) ?_
            refine AF.goto 12 dX9_oneBeat_112 (by decide) ?_
            exact ih (e + 1) F1 f1 _ _ (by omega) hS1 hM1 hfr
          · exact absurd (by rw [nI_leI (by omega) (by omega)]; omega) hb
        | succ k2 ih2 =>
          intro j F1 f1 hj hS1 hM hfr
          have hjl : j < (fg σ.Fg (en σ.E e).1).length := by omega
          have hV := X9_steps_ok hM (en σ.E e).1 (by omega)
          have e1 : f1 (28 + 25 * (en σ.E e).1) = nI (fg σ.Fg (en σ.E e).1).length := (hS1.2.2.1.2 _ hei).2.1
          rw [e1] at hV
          have hrow : f1 (28 + 25 * (en σ.E e).1 + 1 + 3 * j) = nI (g3 (fg σ.Fg (en σ.E e).1) j).1 ∧ f1 (28 + 25 * (en σ.E e).1 + 1 + 3 * j + 1) = nI (g3 (fg σ.Fg (en σ.E e).1) j).2.1 ∧ f1 (28 + 25 * (en σ.E e).1 + 1 + 3 * j + 2) = nI (g3 (fg σ.Fg (en σ.E e).1) j).2.2 := (hS1.2.2.1.2 _ hei).2.2 j hjl
          have hA0 := X9_at_ok hM (en σ.E e).1 j 0 (by omega) (by omega) (by omega)
          have hA1 := X9_at_ok hM (en σ.E e).1 j 1 (by omega) (by omega) (by omega)
          have hA2 := X9_at_ok hM (en σ.E e).1 j 2 (by omega) (by omega) (by omega)
          rw [Nat.add_zero, hrow.1] at hA0
          rw [hrow.2.1] at hA1
          rw [hrow.2.2] at hA2
          have hlim := hFI _ j hjl
          have e5 : f1 5 = nI (σ.bt + 1) := hS1.1.2.2.2.2.2.1
          have e3 : f1 (153 + 2 * e + 1) = nI (en σ.E e).2 := (hS1.2.2.2.2 e heE).2
          have hhl : (hapK (fg σ.Fg (en σ.E e).1) (en σ.E e).2 (σ.bt + 1) (hapE σ.Fg σ.E (σ.bt + 1) σ.J e) j).length = σ.J.length := by rw [hapK_len, hapE_len]
          have hM1 := hM
          obtain ⟨h0, h1, hR⟩ := hM
          refine AF.iload_n dX9_oneBeat_37 rfl ?_
          refine AF.aload_n dX9_oneBeat_38 rfl ?_
          refine AF.iload_n dX9_oneBeat_39 rfl ?_
          refine AF.v1 dX9_oneBeat_40 kv_X9_77 (hV) (by assumption) rfl rfl rfl (Nat.le_of_ble_eq_true rfl) (by decide) rfl ?_
          refine AF.icmp_ge 109 dX9_oneBeat_43 (by decide) (fun hb => ?_) (fun hb => ?_)
          · rw [nI_leI (by omega) (by omega)] at hb
            omega
          · refine AF.aload_n dX9_oneBeat_46 rfl ?_
            refine AF.getfield dX9_oneBeat_47 fl_X9_7 (by assumption) rfl ?_
            refine AF.sipush (nI 153) dX9_oneBeat_50 (by decide) ?_
            refine AF.iconst (nI 2) dX9_oneBeat_53 (by decide) ?_
            refine AF.iload_n dX9_oneBeat_54 rfl ?_
            refine AF.imul dX9_oneBeat_55 ?_
            refine AF.iadd dX9_oneBeat_56 ?_
            refine AF.iconst (nI 1) dX9_oneBeat_57 (by decide) ?_
            refine AF.iadd dX9_oneBeat_58 ?_
            refine AF.iaload (153 + 2 * e + 1) dX9_oneBeat_59 (by assumption) (by first | rfl | exact nI_1 _ | (simp only [nI_add, pk_mul, nI_1]; exact congrArg nI (by omega)) | simp only [nI_add, pk_mul, nI_1]) (by omega) (by decide) ?_
            rw [e3]
            refine AF.aload_n dX9_oneBeat_60 rfl ?_
            refine AF.iload_n dX9_oneBeat_61 rfl ?_
            refine AF.iload_n dX9_oneBeat_62 rfl ?_
            refine AF.iconst (nI 0) dX9_oneBeat_63 (by decide) ?_
            refine AF.v1 dX9_oneBeat_64 kv_X9_80 (hA0) (by assumption) rfl rfl rfl (Nat.le_of_ble_eq_true rfl) (by decide) rfl ?_
            refine AF.iadd dX9_oneBeat_67 ?_
            rw [nI_add]
            refine AF.aload_n dX9_oneBeat_68 rfl ?_
            refine AF.getfield dX9_oneBeat_69 fl_X9_7 (by assumption) rfl ?_
            refine AF.iconst (nI 5) dX9_oneBeat_72 (by decide) ?_
            refine AF.iaload (_) dX9_oneBeat_73 (by assumption) rfl (by omega) (by decide) ?_
            rw [e5]
            refine AF.icmp_ne 103 dX9_oneBeat_74 (by decide) (fun hc => ?_) (fun hc => ?_)
            · rw [nI_eq (by omega) (by omega)] at hc
              refine AF.inc1 dX9_oneBeat_103 rfl (by decide) ?_
              refine AF.goto 37 dX9_oneBeat_106 (by decide) ?_
              refine ih2 (j + 1) F1 f1 (by omega) ?_ hM1 hfr
              rw [hapK, if_neg hc]
              exact hS1
            · rw [nI_eq (by omega) (by omega)] at hc
              refine AF.aload_n dX9_oneBeat_77 rfl ?_
              refine AF.getfield dX9_oneBeat_78 fl_X9_7 (by assumption) rfl ?_
              refine AF.bipush (nI 8) dX9_oneBeat_81 (by decide) ?_
              refine AF.iconst (nI 2) dX9_oneBeat_83 (by decide) ?_
              refine AF.aload_n dX9_oneBeat_84 rfl ?_
              refine AF.iload_n dX9_oneBeat_85 rfl ?_
              refine AF.iload_n dX9_oneBeat_86 rfl ?_
              refine AF.iconst (nI 1) dX9_oneBeat_87 (by decide) ?_
              refine AF.v1 dX9_oneBeat_88 kv_X9_80 (hA1) (by assumption) rfl rfl rfl (Nat.le_of_ble_eq_true rfl) (by decide) rfl ?_
              refine AF.imul dX9_oneBeat_91 ?_
              rw [pk_mul]
              refine AF.iadd dX9_oneBeat_92 ?_
              rw [nI_add]
              refine AF.iconst (nI 1) dX9_oneBeat_93 (by decide) ?_
              refine AF.iadd dX9_oneBeat_94 ?_
              rw [nI_add]
              refine AF.aload_n dX9_oneBeat_95 rfl ?_
              refine AF.iload_n dX9_oneBeat_96 rfl ?_
              refine AF.iload_n dX9_oneBeat_97 rfl ?_
              refine AF.iconst (nI 2) dX9_oneBeat_98 (by decide) ?_
              refine AF.v1 dX9_oneBeat_99 kv_X9_80 (hA2) (by assumption) rfl rfl rfl (Nat.le_of_ble_eq_true rfl) (by decide) rfl ?_
              refine AF.iastoreF (8 + 2 * (g3 (fg σ.Fg (en σ.E e).1) j).2.1 + 1) dX9_oneBeat_102 h1 (by omega) (by first | rfl | exact nI_1 _ | (simp only [nI_add, pk_mul, nI_1]; exact congrArg nI (by omega)) | simp only [nI_add, pk_mul, nI_1]) (by omega) (by decide) ?_
              intro F e9 h9 o9
              replace h0 := (o9 (m) (by omega)).trans h0
              replace hR := hR.kept (fun q h1 h2 => o9 q (by omega))
              replace h1 := h9
              replace hfr := hfr.step e9 (by omega) (by omega) o9
              clear e9 h9 o9
              refine AF.inc1 dX9_oneBeat_103 rfl (by decide) ?_
              refine AF.goto 37 dX9_oneBeat_106 (by decide) ?_
              refine ih2 (j + 1) F _ (by omega) ?_ ⟨h0, h1, hR⟩ hfr
              rw [hapK, if_pos hc]
              exact hS1.jets (hS1.2.1.setO (by show (g3 (fg σ.Fg (en σ.E e).1) j).2.1 < (hapK _ _ _ _ _).length; rw [hhl]; exact hlim.2.1)) (List.length_set ..) (fun q hq => upd_n (by omega))
      have e2 : f1 2 = nI σ.E.length := hS1.1.2.2.1
      have e4 : f1 (153 + 2 * e) = nI (en σ.E e).1 := (hS1.2.2.2.2 e heE).1
      have hM1 := hM
      obtain ⟨h0, h1, hR⟩ := hM
      refine AF.iload_n dX9_oneBeat_12 rfl ?_
      refine AF.aload_n dX9_oneBeat_13 rfl ?_
      refine AF.getfield dX9_oneBeat_14 fl_X9_7 (by assumption) rfl ?_
      refine AF.iconst (nI 2) dX9_oneBeat_17 (by decide) ?_
      refine AF.iaload (_) dX9_oneBeat_18 (by assumption) rfl (by omega) (by decide) ?_
      rw [e2]
      refine AF.icmp_ge 115 dX9_oneBeat_19 (by decide) (fun hb => ?_) (fun hb => ?_)
      · rw [nI_leI (by omega) (by omega)] at hb
        omega
      · refine AF.aload_n dX9_oneBeat_22 rfl ?_
        refine AF.getfield dX9_oneBeat_23 fl_X9_7 (by assumption) rfl ?_
        refine AF.sipush (nI 153) dX9_oneBeat_26 (by decide) ?_
        refine AF.iconst (nI 2) dX9_oneBeat_29 (by decide) ?_
        refine AF.iload_n dX9_oneBeat_30 rfl ?_
        refine AF.imul dX9_oneBeat_31 ?_
        refine AF.iadd dX9_oneBeat_32 ?_
        refine AF.iaload (153 + 2 * e) dX9_oneBeat_33 (by assumption) (by first | rfl | exact nI_1 _ | (simp only [nI_add, pk_mul, nI_1]; exact congrArg nI (by omega)) | simp only [nI_add, pk_mul, nI_1]) (by omega) (by decide) ?_
        rw [e4]
        refine AF.istore_n dX9_oneBeat_34 (by decide) ?_
        refine AF.iconst (nI 0) dX9_oneBeat_35 (by decide) ?_
        refine AF.istore_n dX9_oneBeat_36 (by decide) ?_
        exact inner (fg σ.Fg (en σ.E e).1).length 0 F1 f1 (by omega) hS1 hM1 hfr
  refine AF.aload_n dX9_oneBeat_0 rfl ?_
  refine AF.getfield dX9_oneBeat_1 fl_X9_7 (by assumption) rfl ?_
  refine AF.iconst (nI 5) dX9_oneBeat_4 (by decide) ?_
  refine AF.dup2 dX9_oneBeat_5 rfl rfl ?_
  refine AF.iaload (_) dX9_oneBeat_6 (by assumption) rfl (by omega) (by decide) ?_
  rw [hS.1.2.2.2.2.2.1]
  refine AF.iconst (nI 1) dX9_oneBeat_7 (by decide) ?_
  refine AF.iadd dX9_oneBeat_8 ?_
  rw [nI_add]
  refine AF.iastoreF (_) dX9_oneBeat_9 h1 (by omega) rfl (by omega) (by decide) ?_
  intro F e9 h9 o9
  replace h0 := (o9 (m) (by omega)).trans h0
  replace hR := hR.kept (fun q h1 h2 => o9 q (by omega))
  replace h1 := h9
  replace hfr := hfr.step e9 (by omega) (by omega) o9
  clear e9 h9 o9
  refine AF.iconst (nI 0) dX9_oneBeat_10 (by decide) ?_
  refine AF.istore_n dX9_oneBeat_11 (by decide) ?_
  exact p1 σ.E.length 0 F _ none none (by omega) hS.btn ⟨h0, h1, hR⟩ hfr
set_option maxRecDepth 100000 in
theorem X9_passes_ok (hM : MA G F m g f A) (ha : gN G ≤ m) (hS : SR σ f) (hI : SI σ B) (hB : B + 40 ≤ 2 ^ 21) (x : Int32) : AC G mX9_passes 4 0 0 [.ref m, .int x] F (MD G m (nxN σ (cl x)) g f A (pPas x / 2) (nI (nxF σ (cl x))) F) := by
  have hn := hS.2.1.1
  refine AC.of [some (.ref m), some (.int x), none, none] rfl (by decide) (Nat.le_of_ble_eq_true rfl) rfl ?_
  obtain ⟨h0, h1, hR⟩ := id hM
  refine AF.iload_n dX9_passes_0 rfl ?_
  refine AF.iconst (1) dX9_passes_1 (by decide) ?_
  refine AF.bipush (40) dX9_passes_2 (by decide) ?_
  refine AF.s1 dX9_passes_4 kv_X9_57 ((X9_in_ok x 1 40)) rfl rfl (Nat.le_of_ble_eq_true rfl) (by decide) rfl ?_
  refine AF.if_ne 12 dX9_passes_7 (by decide) (fun c2 => ?_) (fun c2 => ?_)
  · have c2 := bI_n c2
    rw [show pPas x / 2 = 0 from by rw [pPas, if_neg (by rintro (q | q); exact (inB_t c2).1 q; exact (inB_t c2).2 q)]]
    obtain ⟨-, hy, ey⟩ := rng1 (x := x) (n := 40) (by omega) (inB_t c2).1 (inB_t c2).2
    generalize cl x = t at hy ey ⊢
    subst ey
    have loop : ∀ k j F1 f1, j + k = t → SR (nxN σ j) f1 → MA G F1 m g f1 A → Fr m (m + 9) F F1 → AF G mX9_passes 4 0 0 (MD G m (nxN σ t) g f A 0 (nI (nxF σ t)) F) F1 16 [some (.ref m), some (.int (nI t)), some (.int (nI (nxF σ j))), some (.int (nI j))] [] := by
      intro k
      induction k with
      | zero =>
        intro j F1 f1 hj hS1 hM hfr
        have hM1 := hM
        obtain ⟨h0, h1, hR⟩ := hM
        refine AF.iload_n dX9_passes_16 rfl ?_
        refine AF.iload_n dX9_passes_17 rfl ?_
        refine AF.icmp_ge 34 dX9_passes_18 (by decide) (fun hb => ?_) (fun hb => ?_)
        · rw [show j = t by omega] at hS1 ⊢
          refine AF.aload_n dX9_passes_34 rfl ?_
          refine AF.iload_n dX9_passes_35 rfl ?_
          refine AF.vw dX9_passes_36 kv_X9_87 (X9_done_ok hM1 ha (nI (nxF σ t))) (by assumption) rfl rfl rfl (Nat.le_of_ble_eq_true rfl) (by decide) rfl (fun E F9 q => nomatch q.1) (fun v F q => ?_)
          obtain ⟨q, hM, q2⟩ := q
          cases q
          exact AF.ireturn dX9_passes_39 rfl (MD.yes hS1 hM (hfr.trans q2 (Nat.le_refl _) (Nat.le_refl _)))
        · exact absurd (by rw [nI_leI (by omega) (by omega)]; omega) hb
      | succ k ih =>
        intro j F1 f1 hj hS1 hM hfr
        have hP := X9_oneBeat_ok hM ha hS1 (SI_nxN hI hn j (by omega)) (by omega)
        obtain ⟨h0, h1, hR⟩ := hM
        refine AF.iload_n dX9_passes_16 rfl ?_
        refine AF.iload_n dX9_passes_17 rfl ?_
        refine AF.icmp_ge 34 dX9_passes_18 (by decide) (fun hb => ?_) (fun hb => ?_)
        · rw [nI_leI (by omega) (by omega)] at hb
          omega
        · refine AF.iload_n dX9_passes_21 rfl ?_
          refine AF.aload_n dX9_passes_22 rfl ?_
          refine AF.vw dX9_passes_23 kv_X9_121 (hP) (by assumption) rfl rfl rfl (Nat.le_of_ble_eq_true rfl) (by decide) rfl (fun E F9 q => nomatch q.1) (fun v F q => ?_)
          obtain ⟨q, f', hS2, hM, q2⟩ := q
          cases q
          refine AF.iadd dX9_passes_26 ?_
          rw [nI_add]
          refine AF.istore_n dX9_passes_27 (by decide) ?_
          refine AF.inc1 dX9_passes_28 rfl (by decide) ?_
          refine AF.goto 16 dX9_passes_31 (by decide) ?_
          exact ih (j + 1) F f' (by omega) hS2 hM (hfr.trans q2 (Nat.le_refl _) (Nat.le_refl _))
    refine AF.iconst (0) dX9_passes_12 (by decide) ?_
    refine AF.istore_n dX9_passes_13 (by decide) ?_
    refine AF.iconst (0) dX9_passes_14 (by decide) ?_
    refine AF.istore_n dX9_passes_15 (by decide) ?_
    exact loop t 0 F f (by omega) hS hM Fr.rf
  · have c2 := bI_z c2
    rw [show pPas x / 2 = 1 from by rw [pPas, if_pos (inB_f c2)]]
    refine AF.iconst (1) dX9_passes_10 (by decide) ?_
    exact AF.ireturn dX9_passes_11 rfl (MD.no (by decide) hM Fr.rf)
end

