/-! The reference: reading commands, the whole text. -/
theorem cix_c {T : List Int32} {p c : Nat} (h : cix T p = some c) : cmS T p = prC T p c ∧ cmC T p = c := by
  unfold cmS cmC; rw [h]; exact ⟨rfl, rfl⟩
section
variable {G : GA} {F : AH} {m : Nat} {g f : Nat → Int32} {A : Nat → Nat → Int32} {T : List Int32} {p cm : Nat} {td : Nat → Int32}
set_option maxRecDepth 100000 in
set_option maxHeartbeats 8000000 in
theorem X9_readsOne_ok {F0 : AH} (hM : MT G F0 m g f A T true p cm td) (ha : gN G ≤ m) (hT : TOK T A) (hp : p ≤ T.length) (hcm : cm ≤ 58) : AC G mX9_readsOne 7 0 0 [.ref m] F0 (fun r F' => r = .inl none ∧ (∃ td', MT G F' m g f A T (cmS T p).1 (cmS T p).2.1 (cm + 1) td' ∧ ROq T p cm td td') ∧ Fr m (m + 9) F0 F') := by
  have h60 := hT.1
  have hH0 := X9_here_ok hM hT (by omega) 0 (by omega)
  obtain ⟨g', ⟨h0, h1, h2, h3, h4, h5, h6, h7, h8⟩, e16, e17, e18, e19, eg⟩ := hM
  rw [Nat.add_zero] at hH0
  refine AC.of [some (.ref m), none] rfl (by decide) (Nat.le_of_ble_eq_true rfl) rfl ?_
  have hfr : Fr m (m + 9) F0 F0 := Fr.rf
  have fin : ∀ F1 td' x, MT G F1 m g f A T (cmS T p).1 (cmS T p).2.1 cm td' → ROq T p cm td td' → Fr m (m + 9) F0 F1 → AF G mX9_readsOne 7 0 0 (fun r F' => r = .inl none ∧ (∃ td', MT G F' m g f A T (cmS T p).1 (cmS T p).2.1 (cm + 1) td' ∧ ROq T p cm td td') ∧ Fr m (m + 9) F0 F') F1 262 [some (.ref m), some (.int x)] [] := by
    intro F1 td' x hM hR hfr
    obtain ⟨g', ⟨h0, h1, h2, h3, h4, h5, h6, h7, h8⟩, e16, e17, e18, e19, eg⟩ := hM
    refine AF.aload_n dX9_readsOne_262 rfl ?_
    refine AF.dup dX9_readsOne_263 rfl ?_
    refine AF.getfield dX9_readsOne_264 fl_X9_232 (by assumption) rfl ?_
    rw [e18]
    refine AF.iconst (nI 1) dX9_readsOne_267 (by decide) ?_
    refine AF.iadd dX9_readsOne_268 ?_
    rw [nI_add]
    refine AF.putfieldF dX9_readsOne_269 fp_X9_232 h0 (by omega) (Nat.le_of_ble_eq_true rfl) rfl rfl (Or.inr fq_6_18) ?_
    intro F e9 h9 o9
    replace h1 := (o9 (m + 1) (by omega)).trans h1
    replace h2 := (o9 (m + 2) (by omega)).trans h2
    replace h3 := (o9 (m + 3) (by omega)).trans h3
    replace h4 := (o9 (m + 4) (by omega)).trans h4
    replace h5 := (o9 (m + 5) (by omega)).trans h5
    replace h6 := (o9 (m + 6) (by omega)).trans h6
    replace h7 := (o9 (m + 7) (by omega)).trans h7
    replace h8 := (o9 (m + 8) (by omega)).trans h8
    replace h0 := h9
    replace hfr := hfr.step e9 (by omega) (by omega) o9
    clear e9 h9 o9
    exact AF.vreturn dX9_readsOne_272 rfl ⟨rfl, ⟨td', ⟨upd g' 18 (nI (cm + 1)), ⟨h0, h1, h2, h3, h4, h5, h6, h7, h8⟩, e16, e17, rfl, e19, fun q hq => by rw [upd_n (by omega)]; exact eg q hq⟩, hR⟩, hfr⟩
  refine AF.aload_n dX9_readsOne_0 rfl ?_
  refine AF.iconst (nI 0) dX9_readsOne_1 (by decide) ?_
  refine AF.v1 dX9_readsOne_2 kv_X9_225 (hH0) (by assumption) rfl rfl rfl (Nat.le_of_ble_eq_true rfl) (by decide) rfl ?_
  refine AF.istore_n dX9_readsOne_5 (by decide) ?_
  refine AF.aload_n dX9_readsOne_6 rfl ?_
  refine AF.getfield dX9_readsOne_7 fl_X9_28 (by assumption) rfl ?_
  refine AF.iconst (nI 5) dX9_readsOne_10 (by decide) ?_
  refine AF.aload_n dX9_readsOne_11 rfl ?_
  refine AF.getfield dX9_readsOne_12 fl_X9_232 (by assumption) rfl ?_
  rw [e18]
  refine AF.imul dX9_readsOne_15 ?_
  rw [pk_mul]
  refine AF.iload_n dX9_readsOne_16 rfl ?_
  refine AF.iastoreF (5 * cm) dX9_readsOne_17 h7 (by omega) (by first | rfl | exact nI_1 _ | (simp only [nI_add, pk_mul, nI_1]; exact congrArg nI (by omega)) | simp only [nI_add, pk_mul, nI_1]) (by omega) (by decide) ?_
  intro F e9 h9 o9
  replace h0 := (o9 (m) (by omega)).trans h0
  replace h1 := (o9 (m + 1) (by omega)).trans h1
  replace h2 := (o9 (m + 2) (by omega)).trans h2
  replace h3 := (o9 (m + 3) (by omega)).trans h3
  replace h4 := (o9 (m + 4) (by omega)).trans h4
  replace h5 := (o9 (m + 5) (by omega)).trans h5
  replace h6 := (o9 (m + 6) (by omega)).trans h6
  replace h8 := (o9 (m + 8) (by omega)).trans h8
  replace h7 := h9
  replace hfr := hfr.step e9 (by omega) (by omega) o9
  clear e9 h9 o9
  have hM : MT G F m g f A T true p cm (upd td (5 * cm) (hereT T p)) := ⟨g', ⟨h0, h1, h2, h3, h4, h5, h6, h7, h8⟩, e16, e17, e18, e19, eg⟩
  have hM0 := hM
  clear hH0
  have hlow : ∀ (z : Int32) (td' : Nat → Int32), (∀ q, q < 5 * cm → td' q = upd td (5 * cm) z q) → ∀ q, q < 5 * cm → td' q = td q := fun z td' h q hq => by rw [h q hq, upd_n (by omega)]
  refine AF.iload_n dX9_readsOne_18 rfl ?_
  -- no command begins so
  have dfl : cix T p = none → AF G mX9_readsOne 7 0 0 (fun r F' => r = .inl none ∧ (∃ td', MT G F' m g f A T (cmS T p).1 (cmS T p).2.1 (cm + 1) td' ∧ ROq T p cm td td') ∧ Fr m (m + 9) F0 F') F 257 [some (.ref m), some (.int (hereT T p))] [] := by
    intro hn
    have ec : cmS T p = (false, p, []) := by unfold cmS; rw [hn]
    refine AF.aload_n dX9_readsOne_257 rfl ?_
    refine AF.iconst (nI 1) dX9_readsOne_258 (by decide) ?_
    refine AF.putfieldF dX9_readsOne_259 fp_X9_221 h0 (by omega) (Nat.le_of_ble_eq_true rfl) rfl rfl (Or.inr fq_6_19) ?_
    intro F e9 h9 o9
    replace h1 := (o9 (m + 1) (by omega)).trans h1
    replace h2 := (o9 (m + 2) (by omega)).trans h2
    replace h3 := (o9 (m + 3) (by omega)).trans h3
    replace h4 := (o9 (m + 4) (by omega)).trans h4
    replace h5 := (o9 (m + 5) (by omega)).trans h5
    replace h6 := (o9 (m + 6) (by omega)).trans h6
    replace h7 := (o9 (m + 7) (by omega)).trans h7
    replace h8 := (o9 (m + 8) (by omega)).trans h8
    replace h0 := h9
    replace hfr := hfr.step e9 (by omega) (by omega) o9
    clear e9 h9 o9
    refine fin F (upd td (5 * cm) (hereT T p)) _ ?_ ⟨fun q hq => upd_n (by omega), fun ho => by rw [ec] at ho; cases ho⟩ hfr
    rw [ec]
    exact ⟨upd g' 19 (nI 1), ⟨h0, h1, h2, h3, h4, h5, h6, h7, h8⟩, e16, e17, e18, rfl, fun q hq => by rw [upd_n (by omega)]; exact eg q hq⟩
  by_cases e106 : hereT T p = 106
  · have hx := e106
    rw [hx] at hM0 h7 ⊢
    rw [hx] at dfl hM
    refine AF.switchIn 104 dX9_readsOne_19 (by decide) (by decide) rfl (by decide) ?_
    have ec := cix_c (T := T) (p := p) (c := 0) (by unfold cix; rw [hx, if_pos rfl])
    refine AF.aload_n dX9_readsOne_104 rfl ?_
    refine AF.bipush (nI 106) dX9_readsOne_105 (by decide) ?_
    refine AF.ldcS dX9_readsOne_107 st_X9_248 (fun a1 v1 s1 => ?_)
    refine AF.iconst (nI 3) dX9_readsOne_109 (by decide) ?_
    refine AF.vw dX9_readsOne_110 kv_X9_242 (X9_one_ok (true, p, []) hM0 ha hT hp s1 (show TXok "jet " by unfold TXok; decide +kernel) (nI 106) 3 (by omega) hcm) (by assumption) rfl rfl rfl (Nat.le_of_ble_eq_true rfl) (by decide) rfl (fun E F9 q => nomatch q.1) (fun v F q => ?_)
    obtain ⟨q, hM2, q2⟩ := q
    cases q
    have hM2 : MT G F m g f A T (prC T p 0).1 (prC T p 0).2.1 cm (upd (upd (upd td (5 * cm) (106)) (5 * cm) (nI 106)) (5 * cm + 1) (vlR T 3 (saR T "jet " (true, p, []) 4))) := by rw [prC_0]; exact hM2
    refine AF.goto 262 dX9_readsOne_113 (by decide) ?_
    refine fin F _ _ (by rw [ec.1]; exact hM2) ⟨hlow _ _ (fun q hq => by rw [upd_n (by omega), upd_n (by omega)]), fun ho => ?_⟩ (hfr.trans q2 (Nat.le_refl _) (Nat.le_refl _))
    rw [ec.1, prC_0] at ho
    rw [ec.2, ec.1, prC_0]
    obtain ⟨o1, o2⟩ := nuR_ok ho
    have o3 := (saR_ok _ o1).2
    rw [o2, o3, upd_n (by omega), upd_s]
    refine ⟨rfl, fun i hi => ?_⟩
    obtain rfl : i = 0 := by simpa [tdA] using hi
    rw [Nat.add_zero, upd_s]; rfl
  by_cases e111 : hereT T p = 111
  · have hx := e111
    rw [hx] at hM0 h7 ⊢
    rw [hx] at dfl hM
    refine AF.switchIn 116 dX9_readsOne_19 (by decide) (by decide) rfl (by decide) ?_
    have ec := cix_c (T := T) (p := p) (c := 1) (by unfold cix; rw [hx, if_neg (by decide), if_pos rfl])
    refine AF.aload_n dX9_readsOne_116 rfl ?_
    refine AF.bipush (nI 111) dX9_readsOne_117 (by decide) ?_
    refine AF.ldcS dX9_readsOne_119 st_X9_250 (fun a1 v1 s1 => ?_)
    refine AF.ldcS dX9_readsOne_121 st_X9_252 (fun a2 v2 s2 => ?_)
    refine AF.vw dX9_readsOne_123 kv_X9_254 (X9_two_ok (true, p, []) hM0 ha hT hp s1 (show TXok "open " by unfold TXok; decide +kernel) s2 (show TXok "=" by unfold TXok; decide +kernel) (nI 111) hcm) (by assumption) rfl rfl rfl (Nat.le_of_ble_eq_true rfl) (by decide) rfl (fun E F9 q => nomatch q.1) (fun v F q => ?_)
    obtain ⟨q, hM2, q2⟩ := q
    cases q
    have hM2 : MT G F m g f A T (prC T p 1).1 (prC T p 1).2.1 cm (upd (upd (upd (upd td (5 * cm) (111)) (5 * cm) (nI 111)) (5 * cm + 1) (vlR T 1 (saR T "open " (true, p, []) 5))) (5 * cm + 2) (vlR T 3 (saR T "=" (nuR T 1 (saR T "open " (true, p, []) 5)) 1))) := by rw [prC_1]; exact hM2
    refine AF.goto 262 dX9_readsOne_126 (by decide) ?_
    refine fin F _ _ (by rw [ec.1]; exact hM2) ⟨hlow _ _ (fun q hq => by rw [upd_n (by omega), upd_n (by omega), upd_n (by omega)]), fun ho => ?_⟩ (hfr.trans q2 (Nat.le_refl _) (Nat.le_refl _))
    rw [ec.1, prC_1] at ho
    rw [ec.2, ec.1, prC_1]
    obtain ⟨o1, o2⟩ := nuR_ok ho
    obtain ⟨o3, o4⟩ := saR_ok _ o1
    obtain ⟨o5, o6⟩ := nuR_ok o3
    have o7 := (saR_ok _ o5).2
    rw [o2, o4, o6, o7, upd_n (by omega), upd_n (by omega), upd_s]
    refine ⟨rfl, fun i hi => ?_⟩
    have hi : i < 2 := by simpa [tdA] using hi
    by_cases e : i = 0
    · subst e; rw [Nat.add_zero, upd_n (by omega), upd_s]; rfl
    · obtain rfl : i = 1 := by omega
      rw [upd_s]; rfl
  by_cases e112 : hereT T p = 112
  · have hx := e112
    rw [hx] at hM0 h7 ⊢
    rw [hx] at dfl hM
    refine AF.switchIn 129 dX9_readsOne_19 (by decide) (by decide) rfl (by decide) ?_
    have hH1 := X9_here_ok hM0 hT (by omega) 1 (by omega)
    refine AF.aload_n dX9_readsOne_129 rfl ?_
    refine AF.iconst (nI 1) dX9_readsOne_130 (by decide) ?_
    refine AF.v1 dX9_readsOne_131 kv_X9_225 (hH1) (by assumption) rfl rfl rfl (Nat.le_of_ble_eq_true rfl) (by decide) rfl ?_
    refine AF.bipush (nI 108) dX9_readsOne_134 (by decide) ?_
    by_cases hy : hereT T (p + 1) = 108
    · rw [hy]
      refine AF.icmp_ne 154 dX9_readsOne_136 (by decide) (fun hb => ?_) (fun hb => ?_)
      · exact absurd rfl hb
      · skip
        have ec := cix_c (T := T) (p := p) (c := 7) (by unfold cix; rw [hx, if_neg (by decide), if_neg (by decide), if_pos rfl, hy, if_pos rfl])
        refine AF.aload_n dX9_readsOne_139 rfl ?_
        refine AF.bipush (nI 108) dX9_readsOne_140 (by decide) ?_
        refine AF.ldcWS dX9_readsOne_142 st_X9_258 (fun a1 v1 s1 => ?_)
        refine AF.ldcWS dX9_readsOne_145 st_X9_260 (fun a2 v2 s2 => ?_)
        refine AF.vw dX9_readsOne_148 kv_X9_254 (X9_two_ok (true, p, []) hM0 ha hT hp s1 (show TXok "play " by unfold TXok; decide +kernel) s2 (show TXok "+" by unfold TXok; decide +kernel) (nI 108) hcm) (by assumption) rfl rfl rfl (Nat.le_of_ble_eq_true rfl) (by decide) rfl (fun E F9 q => nomatch q.1) (fun v F q => ?_)
        obtain ⟨q, hM2, q2⟩ := q
        cases q
        have hM2 : MT G F m g f A T (prC T p 7).1 (prC T p 7).2.1 cm (upd (upd (upd (upd td (5 * cm) (112)) (5 * cm) (nI 108)) (5 * cm + 1) (vlR T 1 (saR T "play " (true, p, []) 5))) (5 * cm + 2) (vlR T 3 (saR T "+" (nuR T 1 (saR T "play " (true, p, []) 5)) 1))) := by rw [prC_7]; exact hM2
        refine AF.goto 262 dX9_readsOne_151 (by decide) ?_
        refine fin F _ _ (by rw [ec.1]; exact hM2) ⟨hlow _ _ (fun q hq => by rw [upd_n (by omega), upd_n (by omega), upd_n (by omega)]), fun ho => ?_⟩ (hfr.trans q2 (Nat.le_refl _) (Nat.le_refl _))
        rw [ec.1, prC_7] at ho
        rw [ec.2, ec.1, prC_7]
        obtain ⟨o1, o2⟩ := nuR_ok ho
        obtain ⟨o3, o4⟩ := saR_ok _ o1
        obtain ⟨o5, o6⟩ := nuR_ok o3
        have o7 := (saR_ok _ o5).2
        rw [o2, o4, o6, o7, upd_n (by omega), upd_n (by omega), upd_s]
        refine ⟨rfl, fun i hi => ?_⟩
        have hi : i < 2 := by simpa [tdA] using hi
        by_cases e : i = 0
        · subst e; rw [Nat.add_zero, upd_n (by omega), upd_s]; rfl
        · obtain rfl : i = 1 := by omega
          rw [upd_s]; rfl
    · refine AF.icmp_ne 154 dX9_readsOne_136 (by decide) (fun hb => ?_) (fun hb => ?_)
      · refine AF.aload_n dX9_readsOne_154 rfl ?_
        refine AF.iconst (nI 1) dX9_readsOne_155 (by decide) ?_
        refine AF.v1 dX9_readsOne_156 kv_X9_225 (hH1) (by assumption) rfl rfl rfl (Nat.le_of_ble_eq_true rfl) (by decide) rfl ?_
        refine AF.bipush (nI 97) dX9_readsOne_159 (by decide) ?_
        by_cases hz : hereT T (p + 1) = 97
        · rw [hz]
          refine AF.icmp_ne 177 dX9_readsOne_161 (by decide) (fun hb2 => ?_) (fun hb2 => ?_)
          · exact absurd rfl hb2
          · skip
            have ec := cix_c (T := T) (p := p) (c := 8) (by unfold cix; rw [hx, if_neg (by decide), if_neg (by decide), if_pos rfl, if_neg hy, if_pos hz])
            refine AF.aload_n dX9_readsOne_164 rfl ?_
            refine AF.bipush (nI 97) dX9_readsOne_165 (by decide) ?_
            refine AF.ldcWS dX9_readsOne_167 st_X9_262 (fun a1 v1 s1 => ?_)
            refine AF.iconst (nI 3) dX9_readsOne_170 (by decide) ?_
            refine AF.vw dX9_readsOne_171 kv_X9_242 (X9_one_ok (true, p, []) hM0 ha hT hp s1 (show TXok "pass " by unfold TXok; decide +kernel) (nI 97) 3 (by omega) hcm) (by assumption) rfl rfl rfl (Nat.le_of_ble_eq_true rfl) (by decide) rfl (fun E F9 q => nomatch q.1) (fun v F q => ?_)
            obtain ⟨q, hM2, q2⟩ := q
            cases q
            have hM2 : MT G F m g f A T (prC T p 8).1 (prC T p 8).2.1 cm (upd (upd (upd td (5 * cm) (112)) (5 * cm) (nI 97)) (5 * cm + 1) (vlR T 3 (saR T "pass " (true, p, []) 5))) := by rw [prC_8]; exact hM2
            refine AF.goto 262 dX9_readsOne_174 (by decide) ?_
            refine fin F _ _ (by rw [ec.1]; exact hM2) ⟨hlow _ _ (fun q hq => by rw [upd_n (by omega), upd_n (by omega)]), fun ho => ?_⟩ (hfr.trans q2 (Nat.le_refl _) (Nat.le_refl _))
            rw [ec.1, prC_8] at ho
            rw [ec.2, ec.1, prC_8]
            obtain ⟨o1, o2⟩ := nuR_ok ho
            have o3 := (saR_ok _ o1).2
            rw [o2, o3, upd_n (by omega), upd_s]
            refine ⟨rfl, fun i hi => ?_⟩
            obtain rfl : i = 0 := by simpa [tdA] using hi
            rw [Nat.add_zero, upd_s]; rfl
        · refine AF.icmp_ne 177 dX9_readsOne_161 (by decide) (fun hb2 => ?_) (fun hb2 => ?_)
          · skip
            have ec := cix_c (T := T) (p := p) (c := 2) (by unfold cix; rw [hx, if_neg (by decide), if_neg (by decide), if_pos rfl, if_neg hy, if_neg hz])
            refine AF.aload_n dX9_readsOne_177 rfl ?_
            refine AF.bipush (nI 112) dX9_readsOne_178 (by decide) ?_
            refine AF.ldcWS dX9_readsOne_180 st_X9_264 (fun a1 v1 s1 => ?_)
            refine AF.iconst (nI 3) dX9_readsOne_183 (by decide) ?_
            refine AF.vw dX9_readsOne_184 kv_X9_242 (X9_one_ok (true, p, []) hM0 ha hT hp s1 (show TXok "pump " by unfold TXok; decide +kernel) (nI 112) 3 (by omega) hcm) (by assumption) rfl rfl rfl (Nat.le_of_ble_eq_true rfl) (by decide) rfl (fun E F9 q => nomatch q.1) (fun v F q => ?_)
            obtain ⟨q, hM2, q2⟩ := q
            cases q
            have hM2 : MT G F m g f A T (prC T p 2).1 (prC T p 2).2.1 cm (upd (upd (upd td (5 * cm) (112)) (5 * cm) (nI 112)) (5 * cm + 1) (vlR T 3 (saR T "pump " (true, p, []) 5))) := by rw [prC_2]; exact hM2
            refine AF.goto 262 dX9_readsOne_187 (by decide) ?_
            refine fin F _ _ (by rw [ec.1]; exact hM2) ⟨hlow _ _ (fun q hq => by rw [upd_n (by omega), upd_n (by omega)]), fun ho => ?_⟩ (hfr.trans q2 (Nat.le_refl _) (Nat.le_refl _))
            rw [ec.1, prC_2] at ho
            rw [ec.2, ec.1, prC_2]
            obtain ⟨o1, o2⟩ := nuR_ok ho
            have o3 := (saR_ok _ o1).2
            rw [o2, o3, upd_n (by omega), upd_s]
            refine ⟨rfl, fun i hi => ?_⟩
            obtain rfl : i = 0 := by simpa [tdA] using hi
            rw [Nat.add_zero, upd_s]; rfl
          · exact absurd hb2 hz
      · exact absurd hb hy
  by_cases e119 : hereT T p = 119
  · have hx := e119
    rw [hx] at hM0 h7 ⊢
    rw [hx] at dfl hM
    refine AF.switchIn 190 dX9_readsOne_19 (by decide) (by decide) rfl (by decide) ?_
    have ec := cix_c (T := T) (p := p) (c := 3) (by unfold cix; rw [hx, if_neg (by decide), if_neg (by decide), if_neg (by decide), if_pos rfl])
    refine AF.aload_n dX9_readsOne_190 rfl ?_
    refine AF.vw dX9_readsOne_191 kv_X9_266 (X9_breeze_ok hM0 ha hT hp hcm) (by assumption) rfl rfl rfl (Nat.le_of_ble_eq_true rfl) (by decide) rfl (fun E F9 q => nomatch q.1) (fun v F q => ?_)
    obtain ⟨q, ⟨td', hM2, b1, b2⟩, q2⟩ := q
    cases q
    refine AF.goto 262 dX9_readsOne_194 (by decide) ?_
    refine fin F td' _ (by rw [ec.1]; exact hM2) ⟨hlow _ _ b1, fun ho => ?_⟩ (hfr.trans q2 (Nat.le_refl _) (Nat.le_refl _))
    rw [ec.1] at ho
    rw [ec.2, ec.1]
    refine ⟨(b2 ho).1, fun i hi => ?_⟩
    obtain rfl : i = 0 := by simpa [tdA] using hi
    rw [Nat.add_zero, (b2 ho).2]; rfl
  by_cases e116 : hereT T p = 116
  · have hx := e116
    rw [hx] at hM0 h7 ⊢
    rw [hx] at dfl hM
    refine AF.switchIn 197 dX9_readsOne_19 (by decide) (by decide) rfl (by decide) ?_
    have ec := cix_c (T := T) (p := p) (c := 4) (by unfold cix; rw [hx, if_neg (by decide), if_neg (by decide), if_neg (by decide), if_neg (by decide), if_pos rfl])
    refine AF.aload_n dX9_readsOne_197 rfl ?_
    refine AF.ldcWS dX9_readsOne_198 st_X9_269 (fun a1 v1 s1 => ?_)
    refine AF.vw dX9_readsOne_201 kv_X9_235 (X9_says_ok (true, p, []) hM0 ha hT hp s1 (show TXok "trim" by unfold TXok; decide +kernel)) (by assumption) rfl rfl rfl (Nat.le_of_ble_eq_true rfl) (by decide) rfl (fun E F9 q => nomatch q.1) (fun v F q => ?_)
    obtain ⟨q, hM2, q2⟩ := q
    cases q
    have hM2 : MT G F m g f A T (prC T p 4).1 (prC T p 4).2.1 cm (upd td (5 * cm) (116)) := by rw [prC_4]; exact hM2
    refine AF.goto 262 dX9_readsOne_204 (by decide) ?_
    refine fin F _ _ (by rw [ec.1]; exact hM2) ⟨hlow _ _ (fun q hq => rfl), fun ho => ?_⟩ (hfr.trans q2 (Nat.le_refl _) (Nat.le_refl _))
    rw [ec.1, prC_4] at ho
    rw [ec.2, ec.1, prC_4, (saR_ok _ ho).2, upd_s]
    exact ⟨rfl, fun i hi => absurd hi (Nat.not_lt_zero _)⟩
  by_cases e102 : hereT T p = 102
  · have hx := e102
    rw [hx] at hM0 h7 ⊢
    rw [hx] at dfl hM
    refine AF.switchIn 207 dX9_readsOne_19 (by decide) (by decide) rfl (by decide) ?_
    have ec := cix_c (T := T) (p := p) (c := 5) (by unfold cix; rw [hx, if_neg (by decide), if_neg (by decide), if_neg (by decide), if_neg (by decide), if_neg (by decide), if_pos rfl])
    refine AF.aload_n dX9_readsOne_207 rfl ?_
    refine AF.ldcWS dX9_readsOne_208 st_X9_271 (fun a1 v1 s1 => ?_)
    refine AF.vw dX9_readsOne_211 kv_X9_235 (X9_says_ok (true, p, []) hM0 ha hT hp s1 (show TXok "figure" by unfold TXok; decide +kernel)) (by assumption) rfl rfl rfl (Nat.le_of_ble_eq_true rfl) (by decide) rfl (fun E F9 q => nomatch q.1) (fun v F q => ?_)
    obtain ⟨q, hM2, q2⟩ := q
    cases q
    have hM2 : MT G F m g f A T (prC T p 5).1 (prC T p 5).2.1 cm (upd td (5 * cm) (102)) := by rw [prC_5]; exact hM2
    refine AF.goto 262 dX9_readsOne_214 (by decide) ?_
    refine fin F _ _ (by rw [ec.1]; exact hM2) ⟨hlow _ _ (fun q hq => rfl), fun ho => ?_⟩ (hfr.trans q2 (Nat.le_refl _) (Nat.le_refl _))
    rw [ec.1, prC_5] at ho
    rw [ec.2, ec.1, prC_5, (saR_ok _ ho).2, upd_s]
    exact ⟨rfl, fun i hi => absurd hi (Nat.not_lt_zero _)⟩
  by_cases e115 : hereT T p = 115
  · have hx := e115
    rw [hx] at hM0 h7 ⊢
    rw [hx] at dfl hM
    refine AF.switchIn 217 dX9_readsOne_19 (by decide) (by decide) rfl (by decide) ?_
    have ec := cix_c (T := T) (p := p) (c := 6) (by unfold cix; rw [hx, if_neg (by decide), if_neg (by decide), if_neg (by decide), if_neg (by decide), if_neg (by decide), if_neg (by decide), if_pos rfl])
    have x1 : TXok "step " := by unfold TXok; decide +kernel
    have x2 : TXok "+" := by unfold TXok; decide +kernel
    have x3 : TXok ":" := by unfold TXok; decide +kernel
    have x4 : TXok "=" := by unfold TXok; decide +kernel
    refine AF.aload_n dX9_readsOne_217 rfl ?_
    refine AF.bipush (nI 115) dX9_readsOne_218 (by decide) ?_
    refine AF.ldcWS dX9_readsOne_220 st_X9_273 (fun a1 v1 s1 => ?_)
    refine AF.ldcWS dX9_readsOne_223 st_X9_260 (fun a2 v2 s2 => ?_)
    refine AF.vw dX9_readsOne_226 kv_X9_254 (X9_two_ok (true, p, []) hM0 ha hT hp s1 x1 s2 x2 (nI 115) hcm) (by assumption) rfl rfl rfl (Nat.le_of_ble_eq_true rfl) (by decide) rfl (fun E F9 q => nomatch q.1) (fun v F q => ?_)
    obtain ⟨q, hM2, q2⟩ := q
    cases q
    replace hfr := hfr.trans q2 (Nat.le_refl _) (Nat.le_refl _)
    have l1 := saR_le (T := T) x1 (s := (true, p, [])) hp 5 (Nat.le_refl _)
    have l2 := nuR_le (T := T) (k := 1) l1.1
    have l3 := saR_le (T := T) x2 l2.1 1 (Nat.le_refl _)
    have l4 := nuR_le (T := T) (k := 3) l3.1
    have l5 := saR_le (T := T) x3 l4.1 1 (Nat.le_refl _)
    have l6 := nuR_le (T := T) (k := 1) l5.1
    have l7 := saR_le (T := T) x4 l6.1 1 (Nat.le_refl _)
    obtain ⟨g2, ⟨h0, h1, h2, h3, h4, h5, h6, h7, h8⟩, -⟩ := id hM2
    refine AF.aload_n dX9_readsOne_229 rfl ?_
    refine AF.ldcWS dX9_readsOne_230 st_X9_275 (fun a3 v3 s3 => ?_)
    refine AF.vw dX9_readsOne_233 kv_X9_235 (X9_says_ok _ hM2 ha hT l4.1 s3 x3) (by assumption) rfl rfl rfl (Nat.le_of_ble_eq_true rfl) (by decide) rfl (fun E F9 q => nomatch q.1) (fun v F q => ?_)
    obtain ⟨q, hM3, q3⟩ := q
    cases q
    replace hfr := hfr.trans q3 (Nat.le_refl _) (Nat.le_refl _)
    obtain ⟨g2, ⟨h0, h1, h2, h3, h4, h5, h6, h7, h8⟩, -⟩ := id hM3
    refine AF.aload_n dX9_readsOne_236 rfl ?_
    refine AF.iconst (nI 3) dX9_readsOne_237 (by decide) ?_
    refine AF.iconst (nI 1) dX9_readsOne_238 (by decide) ?_
    refine AF.vw dX9_readsOne_239 kv_X9_239 (X9_number_ok _ hM3 ha hT l5.1 3 1 (by omega) (by omega) hcm) (by assumption) rfl rfl rfl (Nat.le_of_ble_eq_true rfl) (by decide) rfl (fun E F9 q => nomatch q.1) (fun v F q => ?_)
    obtain ⟨q, hM4, q4⟩ := q
    cases q
    replace hfr := hfr.trans q4 (Nat.le_refl _) (Nat.le_refl _)
    obtain ⟨g2, ⟨h0, h1, h2, h3, h4, h5, h6, h7, h8⟩, -⟩ := id hM4
    refine AF.aload_n dX9_readsOne_242 rfl ?_
    refine AF.ldcS dX9_readsOne_243 st_X9_252 (fun a4 v4 s4 => ?_)
    refine AF.vw dX9_readsOne_245 kv_X9_235 (X9_says_ok _ hM4 ha hT l6.1 s4 x4) (by assumption) rfl rfl rfl (Nat.le_of_ble_eq_true rfl) (by decide) rfl (fun E F9 q => nomatch q.1) (fun v F q => ?_)
    obtain ⟨q, hM5, q5⟩ := q
    cases q
    replace hfr := hfr.trans q5 (Nat.le_refl _) (Nat.le_refl _)
    obtain ⟨g2, ⟨h0, h1, h2, h3, h4, h5, h6, h7, h8⟩, -⟩ := id hM5
    refine AF.aload_n dX9_readsOne_248 rfl ?_
    refine AF.iconst (nI 4) dX9_readsOne_249 (by decide) ?_
    refine AF.iconst (nI 3) dX9_readsOne_250 (by decide) ?_
    refine AF.vw dX9_readsOne_251 kv_X9_239 (X9_number_ok _ hM5 ha hT l7.1 4 3 (by omega) (by omega) hcm) (by assumption) rfl rfl rfl (Nat.le_of_ble_eq_true rfl) (by decide) rfl (fun E F9 q => nomatch q.1) (fun v F q => ?_)
    obtain ⟨q, hM6, q6⟩ := q
    cases q
    replace hfr := hfr.trans q6 (Nat.le_refl _) (Nat.le_refl _)
    have hM6 : MT G F m g f A T (prC T p 6).1 (prC T p 6).2.1 cm (upd (upd (upd (upd (upd (upd td (5 * cm) 115) (5 * cm) (nI 115)) (5 * cm + 1) (vlR T 1 (saR T "step " (true, p, []) 5))) (5 * cm + 2) (vlR T 3 (saR T "+" (nuR T 1 (saR T "step " (true, p, []) 5)) 1))) (5 * cm + 3) (vlR T 1 (saR T ":" (nuR T 3 (saR T "+" (nuR T 1 (saR T "step " (true, p, []) 5)) 1)) 1))) (5 * cm + 4) (vlR T 3 (saR T "=" (nuR T 1 (saR T ":" (nuR T 3 (saR T "+" (nuR T 1 (saR T "step " (true, p, []) 5)) 1)) 1)) 1))) := by rw [prC_6]; exact hM6
    refine AF.goto 262 dX9_readsOne_254 (by decide) ?_
    refine fin F _ _ (by rw [ec.1]; exact hM6) ⟨hlow _ _ (fun q hq => by rw [upd_n (by omega), upd_n (by omega), upd_n (by omega), upd_n (by omega), upd_n (by omega)]), fun ho => ?_⟩ hfr
    rw [ec.1, prC_6] at ho
    rw [ec.2, ec.1, prC_6]
    obtain ⟨o1, o2⟩ := nuR_ok ho
    obtain ⟨o3, o4⟩ := saR_ok _ o1
    obtain ⟨o5, o6⟩ := nuR_ok o3
    obtain ⟨o7, o8⟩ := saR_ok _ o5
    obtain ⟨o9, o10⟩ := nuR_ok o7
    obtain ⟨o11, o12⟩ := saR_ok _ o9
    obtain ⟨o13, o14⟩ := nuR_ok o11
    have o15 := (saR_ok _ o13).2
    rw [o2, o4, o6, o8, o10, o12, o14, o15, upd_n (by omega), upd_n (by omega), upd_n (by omega), upd_n (by omega), upd_s]
    refine ⟨rfl, fun i hi => ?_⟩
    have hi : i < 4 := by simpa [tdA] using hi
    by_cases e : i = 0
    · subst e; rw [Nat.add_zero, upd_n (by omega), upd_n (by omega), upd_n (by omega), upd_s]; rfl
    · by_cases e : i = 1
      · subst e; rw [upd_n (by omega), upd_n (by omega), upd_s]; rfl
      · by_cases e : i = 2
        · subst e; rw [upd_n (by omega), upd_s]; rfl
        · obtain rfl : i = 3 := by omega
          rw [upd_s]; rfl
  have hn : cix T p = none := by
    unfold cix
    rw [if_neg e106, if_neg e111, if_neg e112, if_neg e119, if_neg e116, if_neg e102, if_neg e115]
  replace dfl := dfl hn
  by_cases q1 : hereT T p < 102
  · exact AF.switchOut 257 dX9_readsOne_19 (Or.inl (by have := Int32.lt_iff_toInt_lt.mp q1; rw [show (102 : Int32).toInt = 102 by decide] at this; exact this)) (by decide) dfl
  · by_cases q2 : 119 < hereT T p
    · exact AF.switchOut 257 dX9_readsOne_19 (Or.inr (by have := Int32.lt_iff_toInt_lt.mp q2; rw [show (119 : Int32).toInt = 119 by decide] at this; exact this)) (by decide) dfl
    · obtain ⟨k1, k2⟩ := rng (x := hereT T p) (n := 119) (by omega) (fun q => q1 (Int32.lt_trans q (by decide))) q2
      generalize cl (hereT T p) = k at k1 k2
      rw [k2] at e106 e111 e112 e119 e116 e102 e115 q1 dfl ⊢
      have k3 : ¬ (nI k < nI 102) := q1
      rw [nI_ltI (by omega) (by omega)] at k3
      have f1 : ¬ k = 106 := fun q => e106 (by rw [q]; rfl)
      have f2 : ¬ k = 111 := fun q => e111 (by rw [q]; rfl)
      have f3 : ¬ k = 112 := fun q => e112 (by rw [q]; rfl)
      have f4 : ¬ k = 119 := fun q => e119 (by rw [q]; rfl)
      have f5 : ¬ k = 116 := fun q => e116 (by rw [q]; rfl)
      have f6 : ¬ k = 102 := fun q => e102 (by rw [q]; rfl)
      have f7 : ¬ k = 115 := fun q => e115 (by rw [q]; rfl)
      rcases (by omega : k = 103 ∨ k = 104 ∨ k = 105 ∨ k = 107 ∨ k = 108 ∨ k = 109 ∨ k = 110 ∨ k = 113 ∨ k = 114 ∨ k = 117 ∨ k = 118) with rfl | rfl | rfl | rfl | rfl | rfl | rfl | rfl | rfl | rfl | rfl <;> exact AF.switchIn 257 dX9_readsOne_19 (by decide) (by decide) rfl (by decide) dfl
end

