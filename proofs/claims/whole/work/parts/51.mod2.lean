/-! The reference: its changes of the jets, the pump, the wind. -/
/-- what a change answers (0, or what it throws), and what it leaves -/
def MD (G : GA) (m : Nat) (σ' : Sg) (g f : Nat → Int32) (A : Nat → Nat → Int32) (p : Nat) (an : Int32) (F0 : AH) : AR → AH → Prop := fun r F' => r = .inl (some (.int (nI p))) ∧ Fr m (m + 9) F0 F' ∧ (p = 0 → ∃ f', SR σ' f' ∧ MA G F' m (upd g 15 an) f' A) ∧ (¬ p = 0 → MA G F' m g f A)
theorem MD.no {G : GA} {m : Nat} {σ' : Sg} {g f : Nat → Int32} {A : Nat → Nat → Int32} {p : Nat} {an : Int32} {F0 F' : AH} (h : ¬ p = 0) (hM : MA G F' m g f A) (q : Fr m (m + 9) F0 F') : MD G m σ' g f A p an F0 (.inl (some (.int (nI p)))) F' := ⟨rfl, q, fun e => absurd e h, fun _ => hM⟩
theorem MD.yes {G : GA} {m : Nat} {σ' : Sg} {g f f' : Nat → Int32} {A : Nat → Nat → Int32} {an : Int32} {F0 F' : AH} (hS : SR σ' f') (hM : MA G F' m (upd g 15 an) f' A) (q : Fr m (m + 9) F0 F') : MD G m σ' g f A 0 an F0 (.inl (some (.int 0))) F' := ⟨rfl, q, fun _ => ⟨f', hS, hM⟩, fun e => absurd rfl e⟩
theorem inB_t {x lo hi : Int32} (h : inB x lo hi = true) : ¬ x < lo ∧ ¬ hi < x := by
  unfold inB at h
  rw [Bool.and_eq_true, decide_eq_true_iff, decide_eq_true_iff] at h
  exact ⟨Int32.not_lt.mpr h.1, Int32.not_lt.mpr h.2⟩
theorem inB_f {x lo hi : Int32} (h : inB x lo hi = false) : x < lo ∨ hi < x := by
  unfold inB at h
  rw [Bool.and_eq_false_iff, decide_eq_false_iff_not, decide_eq_false_iff_not] at h
  rcases h with h | h
  · exact Or.inl (Int32.not_le.mp h)
  · exact Or.inr (Int32.not_le.mp h)
theorem inB_nI {x : Int32} {n : Nat} (hn : n < 2 ^ 31) (h : inB x 0 (nI n) = true) : ∃ k, k ≤ n ∧ x = nI k := by
  obtain ⟨h1, h2⟩ := inB_t h
  obtain ⟨e1, e2⟩ := rng hn h1 h2
  exact ⟨cl x, e1, e2⟩
theorem cl_nI {n : Nat} (h : n < 2 ^ 31) : cl (nI n) = n := nI_clamp h
theorem SR.cap {σ : Sg} {f : Nat → Int32} {c : Nat} (h : SR σ f) (hc : c < 2 ^ 31) : SR (aCap σ (nI c)) (upd f 3 (nI c)) := by
  obtain ⟨⟨a0, a1, a2, a3, a4, a5, a6, a7⟩, hJ, hG, hE⟩ := h
  refine ⟨⟨a0, a1, a2, ?_, a4, a5, a6, a7⟩, hJ.kept (fun q h1 h2 => upd_n (by omega)), hG.kept (fun q h1 h2 => upd_n (by omega)), hE.kept (fun q h1 h2 => upd_n (by omega))⟩
  show upd f 3 (nI c) 3 = nI (cl (nI c))
  rw [upd_s, cl_nI hc]
theorem SR.wnd {σ : Sg} {f : Nat → Int32} {x : Int32} (h : SR σ f) : SR (aWnd σ x) (upd f 4 x) := by
  obtain ⟨⟨a0, a1, a2, a3, a4, a5, a6, a7⟩, hJ, hG, hE⟩ := h
  exact ⟨⟨a0, a1, a2, a3, upd_s, a5, a6, a7⟩, hJ.kept (fun q h1 h2 => upd_n (by omega)), hG.kept (fun q h1 h2 => upd_n (by omega)), hE.kept (fun q h1 h2 => upd_n (by omega))⟩
/-- jets by their places in a row of jets -/
theorem SR.jets {σ : Sg} {J' : List Jt} {f f' : Nat → Int32} (h : SR σ f) (hJ : SJ J' f') (hl : J'.length = σ.J.length) (e : ∀ q, (q < 8 ∨ 28 ≤ q) → f' q = f q) : SR (J', σ.cap, σ.w, σ.Fg, σ.E, σ.bt, σ.pum, σ.sht) f' := by
  obtain ⟨⟨a0, a1, a2, a3, a4, a5, a6, a7⟩, -, hG, hE⟩ := h
  refine ⟨⟨?_, ?_, ?_, ?_, ?_, ?_, ?_, ?_⟩, hJ, hG.kept (fun q h1 h2 => e q (by omega)), hE.kept (fun q h1 h2 => e q (by omega))⟩
  · rw [e 0 (by omega), a0]; show _ = nI J'.length; rw [hl]
  · rw [e _ (by omega)]; exact a1
  · rw [e _ (by omega)]; exact a2
  · rw [e _ (by omega)]; exact a3
  · rw [e _ (by omega)]; exact a4
  · rw [e _ (by omega)]; exact a5
  · rw [e _ (by omega)]; exact a6
  · rw [e _ (by omega)]; exact a7
theorem SJ.setO {J : List Jt} {f : Nat → Int32} {j o : Nat} (hJ : SJ J f) (hj : j < J.length) : SJ (J.set j (jp J j, o)) (upd f (8 + 2 * j + 1) (nI o)) := by
  refine ⟨by rw [List.length_set]; exact hJ.1, fun i hi => ?_⟩
  rw [List.length_set] at hi
  rw [jp_set, jo_set, upd_n (by omega)]
  by_cases e : i = j
  · subst e
    rw [if_pos ⟨rfl, hj⟩, if_pos ⟨rfl, hj⟩, upd_s]
    exact ⟨(hJ.2 i hi).1, rfl⟩
  · rw [if_neg (fun q => e q.1), if_neg (fun q => e q.1), upd_n (by omega)]
    exact hJ.2 i hi
theorem SR.opn {σ : Sg} {f : Nat → Int32} {j o : Nat} (h : SR σ f) (hj : j < σ.J.length) (ho : o < 2 ^ 31) : SR (aOpn σ (nI j) (nI o)) (upd f (8 + 2 * j + 1) (nI o)) := by
  have hn := h.2.1.1
  unfold aOpn
  rw [cl_nI (by omega), cl_nI ho]
  exact h.jets (h.2.1.setO hj) (List.length_set ..) (fun q hq => upd_n (by omega))
theorem SJ.app {J : List Jt} {f : Nat → Int32} {p : Nat} (hJ : SJ J f) (hl : J.length < 10) : SJ (J ++ [(p, 0)]) (upd (upd f (8 + 2 * J.length) (nI p)) (8 + 2 * J.length + 1) 0) := by
  have e5 : (J ++ [(p, 0)]).length = J.length + 1 := by simp
  refine ⟨by rw [e5]; omega, fun i hi => ?_⟩
  rw [e5] at hi
  rw [jp_app, jo_app]
  by_cases e : i = J.length
  · subst e
    rw [if_pos rfl, if_pos rfl]
    refine ⟨?_, upd_s⟩
    rw [upd_n (by omega), upd_s]
  · rw [if_neg e, if_neg e]
    have := hJ.2 i (by omega)
    refine ⟨?_, ?_⟩
    · rw [upd_n (by omega), upd_n (by omega)]; exact this.1
    · rw [upd_n (by omega), upd_n (by omega)]; exact this.2
theorem SR.jet {σ : Sg} {f : Nat → Int32} {p : Nat} (h : SR σ f) (hl : σ.J.length < 10) (hp : p < 2 ^ 31) : SR (aJet σ (nI p)) (upd (upd (upd f (8 + 2 * σ.J.length) (nI p)) (8 + 2 * σ.J.length + 1) 0) 0 (nI (σ.J.length + 1))) := by
  obtain ⟨⟨a0, a1, a2, a3, a4, a5, a6, a7⟩, hJ, hG, hE⟩ := h
  have e5 : (σ.J ++ [(p, 0)]).length = σ.J.length + 1 := by simp
  have hk : ∀ q, (q < 8 ∨ 28 ≤ q) → ¬ q = 0 → upd (upd (upd f (8 + 2 * σ.J.length) (nI p)) (8 + 2 * σ.J.length + 1) 0) 0 (nI (σ.J.length + 1)) q = f q := fun q h1 h2 => by
    rw [upd_n h2, upd_n (by omega), upd_n (by omega)]
  unfold aJet
  rw [cl_nI hp]
  refine ⟨⟨?_, ?_, ?_, ?_, ?_, ?_, ?_, ?_⟩, (hJ.app hl).kept (fun q h1 h2 => upd_n (by omega)), hG.kept (fun q h1 h2 => hk q (by omega) (by omega)), hE.kept (fun q h1 h2 => hk q (by omega) (by omega))⟩
  · rw [upd_s]; show _ = nI (σ.J ++ [(p, 0)]).length; rw [e5]
  · rw [hk _ (by omega) (by omega)]; exact a1
  · rw [hk _ (by omega) (by omega)]; exact a2
  · rw [hk _ (by omega) (by omega)]; exact a3
  · rw [hk _ (by omega) (by omega)]; exact a4
  · rw [hk _ (by omega) (by omega)]; exact a5
  · rw [hk _ (by omega) (by omega)]; exact a6
  · rw [hk _ (by omega) (by omega)]; exact a7
section
variable {G : GA} {F : AH} {m : Nat} {g f : Nat → Int32} {A : Nat → Nat → Int32} {σ : Sg} {B : Nat}
set_option maxRecDepth 100000 in
theorem X9_fails_ok (hM : MA G F m g f A) (ha : gN G ≤ m) (x : Int32) : AC G mX9_fails 0 0 0 [.ref m, .int x] F (MW G m (upd g 0 x) f A (some (.int 0)) F) := by
  obtain ⟨h0, h1, hR⟩ := hM
  refine AC.of [some (.ref m), some (.int x)] rfl (by decide) (Nat.le_of_ble_eq_true rfl) rfl ?_
  have hfr : Fr m (m + 9) F F := Fr.rf
  refine AF.aload_n dX9_fails_0 rfl ?_
  refine AF.iload_n dX9_fails_1 rfl ?_
  refine AF.putfieldF dX9_fails_2 fp_X9_41 h0 (by omega) (Nat.le_of_ble_eq_true rfl) rfl rfl (Or.inr fq_6_0) ?_
  intro F e9 h9 o9
  replace h1 := (o9 (m + 1) (by omega)).trans h1
  replace hR := hR.kept (fun q h1 h2 => o9 q (by omega))
  replace h0 := h9
  replace hfr := hfr.step e9 (by omega) (by omega) o9
  clear e9 h9 o9
  refine AF.iconst (0) dX9_fails_5 (by decide) ?_
  exact AF.ireturn dX9_fails_6 rfl ⟨rfl, ⟨h0, h1, hR⟩, hfr⟩
set_option maxRecDepth 100000 in
theorem X9_done_ok (hM : MA G F m g f A) (ha : gN G ≤ m) (x : Int32) : AC G mX9_done 0 0 0 [.ref m, .int x] F (MW G m (upd g 15 x) f A (some (.int 0)) F) := by
  obtain ⟨h0, h1, hR⟩ := hM
  refine AC.of [some (.ref m), some (.int x)] rfl (by decide) (Nat.le_of_ble_eq_true rfl) rfl ?_
  have hfr : Fr m (m + 9) F F := Fr.rf
  refine AF.aload_n dX9_done_0 rfl ?_
  refine AF.iload_n dX9_done_1 rfl ?_
  refine AF.putfieldF dX9_done_2 fp_X9_47 h0 (by omega) (Nat.le_of_ble_eq_true rfl) rfl rfl (Or.inr fq_6_15) ?_
  intro F e9 h9 o9
  replace h1 := (o9 (m + 1) (by omega)).trans h1
  replace hR := hR.kept (fun q h1 h2 => o9 q (by omega))
  replace h0 := h9
  replace hfr := hfr.step e9 (by omega) (by omega) o9
  clear e9 h9 o9
  refine AF.iconst (0) dX9_done_5 (by decide) ?_
  exact AF.ireturn dX9_done_6 rfl ⟨rfl, ⟨h0, h1, hR⟩, hfr⟩
set_option maxRecDepth 100000 in
theorem X9_opens_ok (hM : MA G F m g f A) (ha : gN G ≤ m) (hS : SR σ f) (x o : Int32) : AC G mX9_opens 2 0 0 [.ref m, .int x, .int o] F (MD G m (aOpn σ x o) g f A (pOpn σ.J.length x o) (nI (jo σ.J (cl x))) F) := by
  have hT := X9_isJet_ok hM hS x
  have hn := hS.2.1.1
  have hV := fun j hj => X9_valve_ok hM j hj
  have hM0 := hM
  obtain ⟨h0, h1, hR⟩ := hM
  refine AC.of [some (.ref m), some (.int x), some (.int o), none] rfl (by decide) (Nat.le_of_ble_eq_true rfl) rfl ?_
  have hfr : Fr m (m + 9) F F := Fr.rf
  refine AF.aload_n dX9_opens_0 rfl ?_
  refine AF.iload_n dX9_opens_1 rfl ?_
  refine AF.v1 dX9_opens_2 kv_X9_90 (hT) (by assumption) rfl rfl rfl (Nat.le_of_ble_eq_true rfl) (by decide) rfl ?_
  refine AF.if_ne 10 dX9_opens_5 (by decide) (fun c1 => ?_) (fun c1 => ?_)
  · have c1 := bI_n c1
    refine AF.iload_n dX9_opens_10 rfl ?_
    refine AF.iconst (0) dX9_opens_11 (by decide) ?_
    refine AF.bipush (10) dX9_opens_12 (by decide) ?_
    refine AF.s1 dX9_opens_14 kv_X9_57 ((X9_in_ok o 0 10)) rfl rfl (Nat.le_of_ble_eq_true rfl) (by decide) rfl ?_
    refine AF.if_ne 22 dX9_opens_17 (by decide) (fun c2 => ?_) (fun c2 => ?_)
    · have c2 := bI_n c2
      rw [show pOpn σ.J.length x o = 0 from by rw [pOpn, if_neg (by rw [c1]; decide), if_neg (by rintro (q | q); exact (inB_t c2).1 q; exact (inB_t c2).2 q)]]
      obtain ⟨j, hj, rfl⟩ := hasB_nI (by omega) c1
      obtain ⟨o, ho, rfl⟩ := inB_nI (n := 10) (by omega) c2
      have hO := hS.opn hj (o := o) (by omega)
      refine AF.aload_n dX9_opens_22 rfl ?_
      refine AF.iload_n dX9_opens_23 rfl ?_
      refine AF.v1 dX9_opens_24 kv_X9_61 ((hV j (by omega))) (by assumption) rfl rfl rfl (Nat.le_of_ble_eq_true rfl) (by decide) rfl ?_
      rw [(hS.2.1.2 j hj).2, cl_nI (by omega)]
      refine AF.istore_n dX9_opens_27 (by decide) ?_
      refine AF.aload_n dX9_opens_28 rfl ?_
      refine AF.getfield dX9_opens_29 fl_X9_7 (by assumption) rfl ?_
      refine AF.bipush (nI 8) dX9_opens_32 (by decide) ?_
      refine AF.iconst (nI 2) dX9_opens_34 (by decide) ?_
      refine AF.iload_n dX9_opens_35 rfl ?_
      refine AF.imul dX9_opens_36 ?_
      refine AF.iadd dX9_opens_37 ?_
      refine AF.iconst (nI 1) dX9_opens_38 (by decide) ?_
      refine AF.iadd dX9_opens_39 ?_
      refine AF.iload_n dX9_opens_40 rfl ?_
      refine AF.iastoreF (8 + 2 * j + 1) dX9_opens_41 h1 (by omega) (by first | rfl | exact nI_1 _ | (simp only [nI_add, pk_mul, nI_1]; exact congrArg nI (by omega)) | simp only [nI_add, pk_mul, nI_1]) (by omega) (by decide) ?_
      intro F e9 h9 o9
      replace h0 := (o9 (m) (by omega)).trans h0
      replace hR := hR.kept (fun q h1 h2 => o9 q (by omega))
      replace h1 := h9
      replace hfr := hfr.step e9 (by omega) (by omega) o9
      clear e9 h9 o9
      refine AF.aload_n dX9_opens_42 rfl ?_
      refine AF.iload_n dX9_opens_43 rfl ?_
      refine AF.vw dX9_opens_44 kv_X9_87 (X9_done_ok ⟨h0, h1, hR⟩ ha (nI (jo σ.J j))) (by assumption) rfl rfl rfl (Nat.le_of_ble_eq_true rfl) (by decide) rfl (fun E F9 q => nomatch q.1) (fun v F q => ?_)
      obtain ⟨q, hM, q2⟩ := q
      cases q
      exact AF.ireturn dX9_opens_47 rfl (MD.yes hO hM (hfr.trans q2 (Nat.le_refl _) (Nat.le_refl _)))
    · have c2 := bI_z c2
      rw [show pOpn σ.J.length x o = 2 from by rw [pOpn, if_neg (by rw [c1]; decide), if_pos (inB_f c2)]]
      refine AF.iconst (2) dX9_opens_20 (by decide) ?_
      exact AF.ireturn dX9_opens_21 rfl (MD.no (by decide) hM0 hfr)
  · have c1 := bI_z c1
    rw [show pOpn σ.J.length x o = 1 from by rw [pOpn, if_pos c1]]
    refine AF.iconst (1) dX9_opens_8 (by decide) ?_
    exact AF.ireturn dX9_opens_9 rfl (MD.no (by decide) hM0 hfr)
set_option maxRecDepth 100000 in
theorem X9_pumps_ok (hM : MA G F m g f A) (ha : gN G ≤ m) (hS : SR σ f) (x : Int32) : AC G mX9_pumps 2 0 0 [.ref m, .int x] F (MD G m (aCap σ x) g f A (pCap x / 2) (nI σ.cap) F) := by
  have hM0 := hM
  obtain ⟨h0, h1, hR⟩ := hM
  refine AC.of [some (.ref m), some (.int x), none] rfl (by decide) (Nat.le_of_ble_eq_true rfl) rfl ?_
  have hfr : Fr m (m + 9) F F := Fr.rf
  refine AF.iload_n dX9_pumps_0 rfl ?_
  refine AF.iconst (0) dX9_pumps_1 (by decide) ?_
  refine AF.bipush (100) dX9_pumps_2 (by decide) ?_
  refine AF.s1 dX9_pumps_4 kv_X9_57 ((X9_in_ok x 0 100)) rfl rfl (Nat.le_of_ble_eq_true rfl) (by decide) rfl ?_
  refine AF.if_ne 12 dX9_pumps_7 (by decide) (fun c2 => ?_) (fun c2 => ?_)
  · have c2 := bI_n c2
    rw [show pCap x / 2 = 0 from by rw [pCap, if_neg (by rintro (q | q); exact (inB_t c2).1 q; exact (inB_t c2).2 q)]]
    obtain ⟨c, hc, rfl⟩ := inB_nI (n := 100) (by omega) c2
    have hO := hS.cap (c := c) (by omega)
    refine AF.aload_n dX9_pumps_12 rfl ?_
    refine AF.getfield dX9_pumps_13 fl_X9_7 (by assumption) rfl ?_
    refine AF.iconst (nI 3) dX9_pumps_16 (by decide) ?_
    refine AF.iaload (_) dX9_pumps_17 (by assumption) rfl (by omega) (by decide) ?_
    rw [hS.1.2.2.2.1]
    refine AF.istore_n dX9_pumps_18 (by decide) ?_
    refine AF.aload_n dX9_pumps_19 rfl ?_
    refine AF.getfield dX9_pumps_20 fl_X9_7 (by assumption) rfl ?_
    refine AF.iconst (nI 3) dX9_pumps_23 (by decide) ?_
    refine AF.iload_n dX9_pumps_24 rfl ?_
    refine AF.iastoreF (_) dX9_pumps_25 h1 (by omega) rfl (by omega) (by decide) ?_
    intro F e9 h9 o9
    replace h0 := (o9 (m) (by omega)).trans h0
    replace hR := hR.kept (fun q h1 h2 => o9 q (by omega))
    replace h1 := h9
    replace hfr := hfr.step e9 (by omega) (by omega) o9
    clear e9 h9 o9
    refine AF.aload_n dX9_pumps_26 rfl ?_
    refine AF.iload_n dX9_pumps_27 rfl ?_
    refine AF.vw dX9_pumps_28 kv_X9_87 (X9_done_ok ⟨h0, h1, hR⟩ ha (nI σ.cap)) (by assumption) rfl rfl rfl (Nat.le_of_ble_eq_true rfl) (by decide) rfl (fun E F9 q => nomatch q.1) (fun v F q => ?_)
    obtain ⟨q, hM, q2⟩ := q
    cases q
    exact AF.ireturn dX9_pumps_31 rfl (MD.yes hO hM (hfr.trans q2 (Nat.le_refl _) (Nat.le_refl _)))
  · have c2 := bI_z c2
    rw [show pCap x / 2 = 1 from by rw [pCap, if_pos (inB_f c2)]]
    refine AF.iconst (1) dX9_pumps_10 (by decide) ?_
    exact AF.ireturn dX9_pumps_11 rfl (MD.no (by decide) hM0 hfr)
set_option maxRecDepth 100000 in
theorem X9_blows_ok (hM : MA G F m g f A) (ha : gN G ≤ m) (hS : SR σ f) (x : Int32) : AC G mX9_blows 2 0 0 [.ref m, .int x] F (MD G m (aWnd σ x) g f A (pWnd x / 2) σ.w F) := by
  have hM0 := hM
  obtain ⟨h0, h1, hR⟩ := hM
  refine AC.of [some (.ref m), some (.int x), none] rfl (by decide) (Nat.le_of_ble_eq_true rfl) rfl ?_
  have hfr : Fr m (m + 9) F F := Fr.rf
  refine AF.iload_n dX9_blows_0 rfl ?_
  refine AF.bipush (-9) dX9_blows_1 (by decide) ?_
  refine AF.bipush (9) dX9_blows_3 (by decide) ?_
  refine AF.s1 dX9_blows_5 kv_X9_57 ((X9_in_ok x (-9) 9)) rfl rfl (Nat.le_of_ble_eq_true rfl) (by decide) rfl ?_
  refine AF.if_ne 13 dX9_blows_8 (by decide) (fun c2 => ?_) (fun c2 => ?_)
  · have c2 := bI_n c2
    rw [show pWnd x / 2 = 0 from by rw [pWnd, if_neg (by rintro (q | q); exact (inB_t c2).1 q; exact (inB_t c2).2 q)]]
    have hO := hS.wnd (x := x)
    refine AF.aload_n dX9_blows_13 rfl ?_
    refine AF.getfield dX9_blows_14 fl_X9_7 (by assumption) rfl ?_
    refine AF.iconst (nI 4) dX9_blows_17 (by decide) ?_
    refine AF.iaload (_) dX9_blows_18 (by assumption) rfl (by omega) (by decide) ?_
    rw [hS.1.2.2.2.2.1]
    refine AF.istore_n dX9_blows_19 (by decide) ?_
    refine AF.aload_n dX9_blows_20 rfl ?_
    refine AF.getfield dX9_blows_21 fl_X9_7 (by assumption) rfl ?_
    refine AF.iconst (nI 4) dX9_blows_24 (by decide) ?_
    refine AF.iload_n dX9_blows_25 rfl ?_
    refine AF.iastoreF (_) dX9_blows_26 h1 (by omega) rfl (by omega) (by decide) ?_
    intro F e9 h9 o9
    replace h0 := (o9 (m) (by omega)).trans h0
    replace hR := hR.kept (fun q h1 h2 => o9 q (by omega))
    replace h1 := h9
    replace hfr := hfr.step e9 (by omega) (by omega) o9
    clear e9 h9 o9
    refine AF.aload_n dX9_blows_27 rfl ?_
    refine AF.iload_n dX9_blows_28 rfl ?_
    refine AF.vw dX9_blows_29 kv_X9_87 (X9_done_ok ⟨h0, h1, hR⟩ ha σ.w) (by assumption) rfl rfl rfl (Nat.le_of_ble_eq_true rfl) (by decide) rfl (fun E F9 q => nomatch q.1) (fun v F q => ?_)
    obtain ⟨q, hM, q2⟩ := q
    cases q
    exact AF.ireturn dX9_blows_32 rfl (MD.yes hO hM (hfr.trans q2 (Nat.le_refl _) (Nat.le_refl _)))
  · have c2 := bI_z c2
    rw [show pWnd x / 2 = 1 from by rw [pWnd, if_pos (inB_f c2)]]
    refine AF.iconst (1) dX9_blows_11 (by decide) ?_
    exact AF.ireturn dX9_blows_12 rfl (MD.no (by decide) hM0 hfr)
set_option maxRecDepth 100000 in
theorem X9_addsJet_ok (hM : MA G F m g f A) (ha : gN G ≤ m) (hS : SR σ f) (hI : SI σ B) (x : Int32) : AC G mX9_addsJet 2 0 0 [.ref m, .int x] F (MD G m (aJet σ x) g f A (pAdd σ.J x - 1) (nI σ.J.length) F) := by
  have hn := hS.2.1.1
  have hV := fun j hj => X9_place_ok hM j hj
  have hM0 := hM
  obtain ⟨h0, h1, hR⟩ := hM
  refine AC.of [some (.ref m), some (.int x), none] rfl (by decide) (Nat.le_of_ble_eq_true rfl) rfl ?_
  have hfr : Fr m (m + 9) F F := Fr.rf
  refine AF.iload_n dX9_addsJet_0 rfl ?_
  refine AF.iconst (0) dX9_addsJet_1 (by decide) ?_
  refine AF.bipush (99) dX9_addsJet_2 (by decide) ?_
  refine AF.s1 dX9_addsJet_4 kv_X9_57 ((X9_in_ok x 0 99)) rfl rfl (Nat.le_of_ble_eq_true rfl) (by decide) rfl ?_
  refine AF.if_ne 12 dX9_addsJet_7 (by decide) (fun c2 => ?_) (fun c2 => ?_)
  · have c2 := bI_n c2
    have hr : ¬ (x < 0 ∨ 99 < x) := by rintro (q | q); exact (inB_t c2).1 q; exact (inB_t c2).2 q
    have loop : ∀ k j, j + k = σ.J.length → (∀ i, i < j → decide (nI (jp σ.J i) = x) = false) → AF G mX9_addsJet 2 0 0 (MD G m (aJet σ x) g f A (pAdd σ.J x - 1) (nI σ.J.length) F) F 14 [some (.ref m), some (.int x), some (.int (nI j))] [] := by
      intro k
      induction k with
      | zero =>
        intro j hj hb9
        refine AF.iload_n dX9_addsJet_14 rfl ?_
        refine AF.aload_n dX9_addsJet_15 rfl ?_
        refine AF.getfield dX9_addsJet_16 fl_X9_7 (by assumption) rfl ?_
        refine AF.iconst (nI 0) dX9_addsJet_19 (by decide) ?_
        refine AF.iaload (_) dX9_addsJet_20 (by assumption) rfl (by omega) (by decide) ?_
        rw [hS.1.1]
        refine AF.icmp_ge 41 dX9_addsJet_21 (by decide) (fun hb => ?_) (fun hb => ?_)
        · have hno : (fnd (fun j => decide (nI (jp σ.J j) = x)) σ.J.length).isSome = false := by rw [fnd_none (fun i hi => hb9 i (by omega))]; rfl
          refine AF.aload_n dX9_addsJet_41 rfl ?_
          refine AF.getfield dX9_addsJet_42 fl_X9_7 (by assumption) rfl ?_
          refine AF.iconst (nI 0) dX9_addsJet_45 (by decide) ?_
          refine AF.iaload (_) dX9_addsJet_46 (by assumption) rfl (by omega) (by decide) ?_
          rw [hS.1.1]
          refine AF.istore_n dX9_addsJet_47 (by decide) ?_
          refine AF.iload_n dX9_addsJet_48 rfl ?_
          refine AF.bipush (nI 10) dX9_addsJet_49 (by decide) ?_
          refine AF.icmp_ne 56 dX9_addsJet_51 (by decide) (fun hc => ?_) (fun hc => ?_)
          · rw [nI_eq (by omega) (by omega)] at hc
            rw [show pAdd σ.J x - 1 = 0 from by rw [pAdd, if_neg hr, if_neg (by rw [hno]; decide), if_pos (by omega)]]
            obtain ⟨p, hp, rfl⟩ := inB_nI (n := 99) (by omega) c2
            have hO := hS.jet (p := p) (by omega) (by omega)
            refine AF.aload_n dX9_addsJet_56 rfl ?_
            refine AF.getfield dX9_addsJet_57 fl_X9_7 (by assumption) rfl ?_
            refine AF.bipush (nI 8) dX9_addsJet_60 (by decide) ?_
            refine AF.iconst (nI 2) dX9_addsJet_62 (by decide) ?_
            refine AF.iload_n dX9_addsJet_63 rfl ?_
            refine AF.imul dX9_addsJet_64 ?_
            refine AF.iadd dX9_addsJet_65 ?_
            refine AF.iload_n dX9_addsJet_66 rfl ?_
            refine AF.iastoreF (8 + 2 * σ.J.length) dX9_addsJet_67 h1 (by omega) (by first | rfl | exact nI_1 _ | (simp only [nI_add, pk_mul, nI_1]; exact congrArg nI (by omega)) | simp only [nI_add, pk_mul, nI_1]) (by omega) (by decide) ?_
            intro F e9 h9 o9
            replace h0 := (o9 (m) (by omega)).trans h0
            replace hR := hR.kept (fun q h1 h2 => o9 q (by omega))
            replace h1 := h9
            replace hfr := hfr.step e9 (by omega) (by omega) o9
            clear e9 h9 o9
            refine AF.aload_n dX9_addsJet_68 rfl ?_
            refine AF.getfield dX9_addsJet_69 fl_X9_7 (by assumption) rfl ?_
            refine AF.bipush (nI 8) dX9_addsJet_72 (by decide) ?_
            refine AF.iconst (nI 2) dX9_addsJet_74 (by decide) ?_
            refine AF.iload_n dX9_addsJet_75 rfl ?_
            refine AF.imul dX9_addsJet_76 ?_
            refine AF.iadd dX9_addsJet_77 ?_
            refine AF.iconst (nI 1) dX9_addsJet_78 (by decide) ?_
            refine AF.iadd dX9_addsJet_79 ?_
            refine AF.iconst (nI 0) dX9_addsJet_80 (by decide) ?_
            refine AF.iastoreF (8 + 2 * σ.J.length + 1) dX9_addsJet_81 h1 (by omega) (by first | rfl | exact nI_1 _ | (simp only [nI_add, pk_mul, nI_1]; exact congrArg nI (by omega)) | simp only [nI_add, pk_mul, nI_1]) (by omega) (by decide) ?_
            intro F e9 h9 o9
            replace h0 := (o9 (m) (by omega)).trans h0
            replace hR := hR.kept (fun q h1 h2 => o9 q (by omega))
            replace h1 := h9
            replace hfr := hfr.step e9 (by omega) (by omega) o9
            clear e9 h9 o9
            refine AF.aload_n dX9_addsJet_82 rfl ?_
            refine AF.getfield dX9_addsJet_83 fl_X9_7 (by assumption) rfl ?_
            refine AF.iconst (nI 0) dX9_addsJet_86 (by decide) ?_
            refine AF.iload_n dX9_addsJet_87 rfl ?_
            refine AF.iconst (nI 1) dX9_addsJet_88 (by decide) ?_
            refine AF.iadd dX9_addsJet_89 ?_
            rw [nI_add]
            refine AF.iastoreF (_) dX9_addsJet_90 h1 (by omega) rfl (by omega) (by decide) ?_
            intro F e9 h9 o9
            replace h0 := (o9 (m) (by omega)).trans h0
            replace hR := hR.kept (fun q h1 h2 => o9 q (by omega))
            replace h1 := h9
            replace hfr := hfr.step e9 (by omega) (by omega) o9
            clear e9 h9 o9
            refine AF.aload_n dX9_addsJet_91 rfl ?_
            refine AF.iload_n dX9_addsJet_92 rfl ?_
            refine AF.vw dX9_addsJet_93 kv_X9_87 (X9_done_ok ⟨h0, h1, hR⟩ ha (nI σ.J.length)) (by assumption) rfl rfl rfl (Nat.le_of_ble_eq_true rfl) (by decide) rfl (fun E F9 q => nomatch q.1) (fun v F q => ?_)
            obtain ⟨q, hM, q2⟩ := q
            cases q
            exact AF.ireturn dX9_addsJet_96 rfl (MD.yes hO hM (hfr.trans q2 (Nat.le_refl _) (Nat.le_refl _)))
          · rw [nI_eq (by omega) (by omega)] at hc
            rw [show pAdd σ.J x - 1 = 3 from by rw [pAdd, if_neg hr, if_neg (by rw [hno]; decide), if_neg (by omega)]]
            refine AF.iconst (3) dX9_addsJet_54 (by decide) ?_
            exact AF.ireturn dX9_addsJet_55 rfl (MD.no (by decide) hM0 hfr)
        · exact absurd (by rw [nI_leI (by omega) (by omega)]; omega) hb
      | succ k ih =>
        intro j hj hb9
        refine AF.iload_n dX9_addsJet_14 rfl ?_
        refine AF.aload_n dX9_addsJet_15 rfl ?_
        refine AF.getfield dX9_addsJet_16 fl_X9_7 (by assumption) rfl ?_
        refine AF.iconst (nI 0) dX9_addsJet_19 (by decide) ?_
        refine AF.iaload (_) dX9_addsJet_20 (by assumption) rfl (by omega) (by decide) ?_
        rw [hS.1.1]
        refine AF.icmp_ge 41 dX9_addsJet_21 (by decide) (fun hb => ?_) (fun hb => ?_)
        · rw [nI_leI (by omega) (by omega)] at hb
          omega
        · refine AF.aload_n dX9_addsJet_24 rfl ?_
          refine AF.iload_n dX9_addsJet_25 rfl ?_
          refine AF.v1 dX9_addsJet_26 kv_X9_68 ((hV j (by omega))) (by assumption) rfl rfl rfl (Nat.le_of_ble_eq_true rfl) (by decide) rfl ?_
          rw [(hS.2.1.2 j (by omega)).1]
          refine AF.iload_n dX9_addsJet_29 rfl ?_
          refine AF.icmp_ne 35 dX9_addsJet_30 (by decide) (fun hc => ?_) (fun hc => ?_)
          · refine AF.inc1 dX9_addsJet_35 rfl (by decide) ?_
            refine AF.goto 14 dX9_addsJet_38 (by decide) ?_
            refine ih (j + 1) (by omega) (fun i hi => ?_)
            by_cases e : i = j
            · rw [e]; exact decide_eq_false hc
            · exact hb9 i (by omega)
          · rw [show pAdd σ.J x - 1 = 2 from by rw [pAdd, if_neg hr, fnd_some (decide_eq_true hc) (by omega) hb9]; rfl]
            refine AF.iconst (2) dX9_addsJet_33 (by decide) ?_
            exact AF.ireturn dX9_addsJet_34 rfl (MD.no (by decide) hM0 hfr)
    refine AF.iconst (0) dX9_addsJet_12 (by decide) ?_
    refine AF.istore_n dX9_addsJet_13 (by decide) ?_
    exact loop σ.J.length 0 (by omega) (fun i hi => by omega)
  · have c2 := bI_z c2
    rw [show pAdd σ.J x - 1 = 1 from by rw [pAdd, if_pos (inB_f c2)]]
    refine AF.iconst (1) dX9_addsJet_10 (by decide) ?_
    exact AF.ireturn dX9_addsJet_11 rfl (MD.no (by decide) hM0 hfr)
/-- trimming by n steps more, from c on, the jets as far as they came -/
theorem trm_succ {cap : Nat} {w : Int32} {J : List Jt} {j n : Nat} (hj : j < J.length) (hw : wld J cap w j = true) (hb : ∀ i, i < j → wld J cap w i = false) : trm cap w (n + 1) J = ((trm cap w n (dec1 J j)).1 + 1, (trm cap w n (dec1 J j)).2) := by
  simp only [trm, wfst, fnd_some hw hj hb]
theorem trm_stop {cap : Nat} {w : Int32} {J : List Jt} (n : Nat) (hb : ∀ i, i < J.length → wld J cap w i = false) : trm cap w n J = (0, J) := by
  cases n with
  | zero => rfl
  | succ n => simp only [trm, wfst, fnd_none hb]
theorem dem_dec {J : List Jt} {j : Nat} (hj : j < J.length) (h0 : 0 < jo J j) : dem (dec1 J j) + 1 = dem J := by
  have key : ∀ n, sumN (jo (dec1 J j)) n + (if j < n then 1 else 0) = sumN (jo J) n := by
    intro n
    induction n with
    | zero => rfl
    | succ n ih =>
      simp only [sumN]
      rw [← ih, show jo (dec1 J j) n = if n = j ∧ j < J.length then jo J j - 1 else jo J n from jo_set]
      by_cases e : n = j
      · subst e
        rw [if_pos ⟨rfl, hj⟩, if_pos (Nat.lt_succ_self n), if_neg (Nat.lt_irrefl n)]
        omega
      · rw [if_neg (fun q => e q.1)]
        by_cases q : j < n
        · rw [if_pos q, if_pos (by omega)]; omega
        · rw [if_neg q, if_neg (by omega)]; omega
  have := key J.length
  rw [if_pos hj] at this
  unfold dem
  rw [dec1_len]
  exact this
set_option maxRecDepth 100000 in
theorem X9_trims_ok (hM : MA G F m g f A) (ha : gN G ≤ m) (hS : SR σ f) (hI : SI σ B) : AC G mX9_trims 5 0 0 [.ref m] F (MD G m (aTrm σ) g f A 0 (nI (trm σ.cap σ.w 100 σ.J).1) F) := by
  have hn := hS.2.1.1
  refine AC.of [some (.ref m), none, none] rfl (by decide) (Nat.le_of_ble_eq_true rfl) rfl ?_
  have outer : ∀ n c J1 F1 f1, dem J1 ≤ n → c + dem J1 ≤ 100 → J1.length = σ.J.length → JI J1 → SR (J1, σ.cap, σ.w, σ.Fg, σ.E, σ.bt, σ.pum, σ.sht) f1 → MA G F1 m g f1 A → Fr m (m + 9) F F1 → AF G mX9_trims 5 0 0 (MD G m ((trm σ.cap σ.w n J1).2, σ.cap, σ.w, σ.Fg, σ.E, σ.bt, σ.pum, σ.sht) g f A 0 (nI (c + (trm σ.cap σ.w n J1).1)) F) F1 4 [some (.ref m), some (.int (nI c)), some (.int (nI 0))] [] := by
    intro n
    induction n with
    | zero =>
      intro c J1 F1 f1 hd hc hl hJ1 hS1 hM hfr
      have hM0 := hM
      obtain ⟨h0, h1, hR⟩ := hM
      have hnw : ∀ i, i < J1.length → wld J1 σ.cap σ.w i = false := fun i hi => by
        cases q : wld J1 σ.cap σ.w i with
        | false => rfl
        | true =>
          have h1 := wild_open hJ1 q
          have h2 := dem_dec hi h1
          omega
      have inner : ∀ k j, j + k = J1.length → AF G mX9_trims 5 0 0 (MD G m (J1, σ.cap, σ.w, σ.Fg, σ.E, σ.bt, σ.pum, σ.sht) g f A 0 (nI c) F) F1 4 [some (.ref m), some (.int (nI c)), some (.int (nI j))] [] := by
        intro k
        induction k with
        | zero =>
          intro j hj
          refine AF.iload_n dX9_trims_4 rfl ?_
          refine AF.aload_n dX9_trims_5 rfl ?_
          refine AF.getfield dX9_trims_6 fl_X9_7 (by assumption) rfl ?_
          refine AF.iconst (nI 0) dX9_trims_9 (by decide) ?_
          refine AF.iaload (_) dX9_trims_10 (by assumption) rfl (by omega) (by decide) ?_
          rw [show f1 0 = nI J1.length from hS1.1.1]
          refine AF.icmp_ge 53 dX9_trims_11 (by decide) (fun hb => ?_) (fun hb => ?_)
          · refine AF.aload_n dX9_trims_53 rfl ?_
            refine AF.iload_n dX9_trims_54 rfl ?_
            refine AF.vw dX9_trims_55 kv_X9_87 (X9_done_ok hM0 ha (nI c)) (by assumption) rfl rfl rfl (Nat.le_of_ble_eq_true rfl) (by decide) rfl (fun E F9 q => nomatch q.1) (fun v F q => ?_)
            obtain ⟨q, hM, q2⟩ := q
            cases q
            exact AF.ireturn dX9_trims_58 rfl (MD.yes hS1 hM (hfr.trans q2 (Nat.le_refl _) (Nat.le_refl _)))
          · exact absurd (by rw [nI_leI (by omega) (by omega)]; omega) hb
        | succ k ih2 =>
          intro j hj
          refine AF.iload_n dX9_trims_4 rfl ?_
          refine AF.aload_n dX9_trims_5 rfl ?_
          refine AF.getfield dX9_trims_6 fl_X9_7 (by assumption) rfl ?_
          refine AF.iconst (nI 0) dX9_trims_9 (by decide) ?_
          refine AF.iaload (_) dX9_trims_10 (by assumption) rfl (by omega) (by decide) ?_
          rw [show f1 0 = nI J1.length from hS1.1.1]
          refine AF.icmp_ge 53 dX9_trims_11 (by decide) (fun hb => ?_) (fun hb => ?_)
          · rw [nI_leI (by omega) (by omega)] at hb
            omega
          · refine AF.aload_n dX9_trims_14 rfl ?_
            refine AF.iload_n dX9_trims_15 rfl ?_
            refine AF.v1 dX9_trims_16 kv_X9_98 ((X9_wild_ok hM0 hS1 (show SI (J1, σ.cap, σ.w, σ.Fg, σ.E, σ.bt, σ.pum, σ.sht) B from ⟨hJ1, hI.2.1, by show FI σ.Fg J1.length; rw [hl]; exact hI.2.2.1, hI.2.2.2⟩) j (show j < J1.length by omega))) (by assumption) rfl rfl rfl (Nat.le_of_ble_eq_true rfl) (by decide) rfl ?_
            rw [show wld (Sg.J (J1, σ.cap, σ.w, σ.Fg, σ.E, σ.bt, σ.pum, σ.sht)) (Sg.cap (J1, σ.cap, σ.w, σ.Fg, σ.E, σ.bt, σ.pum, σ.sht)) (Sg.w (J1, σ.cap, σ.w, σ.Fg, σ.E, σ.bt, σ.pum, σ.sht)) j = false from hnw j (by omega)]
            refine AF.if_ne 28 dX9_trims_19 (by decide) (fun hc2 => ?_) (fun hc2 => ?_)
            · exact absurd rfl hc2
            · refine AF.inc1 dX9_trims_22 rfl (by decide) ?_
              refine AF.goto 4 dX9_trims_25 (by decide) ?_
              exact ih2 (j + 1) (by omega)
      have h9 := inner J1.length 0 (by omega)
      exact h9
    | succ n ih =>
      intro c J1 F1 f1 hd hc hl hJ1 hS1 hM hfr
      have hM0 := hM
      obtain ⟨h0, h1, hR⟩ := hM
      have inner : ∀ k j, j + k = J1.length → (∀ i, i < j → wld J1 σ.cap σ.w i = false) → AF G mX9_trims 5 0 0 (MD G m ((trm σ.cap σ.w (n + 1) J1).2, σ.cap, σ.w, σ.Fg, σ.E, σ.bt, σ.pum, σ.sht) g f A 0 (nI (c + (trm σ.cap σ.w (n + 1) J1).1)) F) F1 4 [some (.ref m), some (.int (nI c)), some (.int (nI j))] [] := by
        intro k
        induction k with
        | zero =>
          intro j hj hb9
          rw [trm_stop (n + 1) (fun i hi => hb9 i (by omega))]
          refine AF.iload_n dX9_trims_4 rfl ?_
          refine AF.aload_n dX9_trims_5 rfl ?_
          refine AF.getfield dX9_trims_6 fl_X9_7 (by assumption) rfl ?_
          refine AF.iconst (nI 0) dX9_trims_9 (by decide) ?_
          refine AF.iaload (_) dX9_trims_10 (by assumption) rfl (by omega) (by decide) ?_
          rw [show f1 0 = nI J1.length from hS1.1.1]
          refine AF.icmp_ge 53 dX9_trims_11 (by decide) (fun hb => ?_) (fun hb => ?_)
          · refine AF.aload_n dX9_trims_53 rfl ?_
            refine AF.iload_n dX9_trims_54 rfl ?_
            refine AF.vw dX9_trims_55 kv_X9_87 (X9_done_ok hM0 ha (nI c)) (by assumption) rfl rfl rfl (Nat.le_of_ble_eq_true rfl) (by decide) rfl (fun E F9 q => nomatch q.1) (fun v F q => ?_)
            obtain ⟨q, hM, q2⟩ := q
            cases q
            exact AF.ireturn dX9_trims_58 rfl (MD.yes hS1 hM (hfr.trans q2 (Nat.le_refl _) (Nat.le_refl _)))
          · exact absurd (by rw [nI_leI (by omega) (by omega)]; omega) hb
        | succ k ih2 =>
          intro j hj hb9
          refine AF.iload_n dX9_trims_4 rfl ?_
          refine AF.aload_n dX9_trims_5 rfl ?_
          refine AF.getfield dX9_trims_6 fl_X9_7 (by assumption) rfl ?_
          refine AF.iconst (nI 0) dX9_trims_9 (by decide) ?_
          refine AF.iaload (_) dX9_trims_10 (by assumption) rfl (by omega) (by decide) ?_
          rw [show f1 0 = nI J1.length from hS1.1.1]
          refine AF.icmp_ge 53 dX9_trims_11 (by decide) (fun hb => ?_) (fun hb => ?_)
          · rw [nI_leI (by omega) (by omega)] at hb
            omega
          · refine AF.aload_n dX9_trims_14 rfl ?_
            refine AF.iload_n dX9_trims_15 rfl ?_
            refine AF.v1 dX9_trims_16 kv_X9_98 ((show AC G mX9_wild 4 0 0 [.ref m, .int (nI j)] F1 (AV (some (.int (bI (wld J1 σ.cap σ.w j)))) F1) from X9_wild_ok hM0 hS1 (show SI (J1, σ.cap, σ.w, σ.Fg, σ.E, σ.bt, σ.pum, σ.sht) B from ⟨hJ1, hI.2.1, by show FI σ.Fg J1.length; rw [hl]; exact hI.2.2.1, hI.2.2.2⟩) j (show j < J1.length by omega))) (by assumption) rfl rfl rfl (Nat.le_of_ble_eq_true rfl) (by decide) rfl ?_
            refine AF.if_ne 28 dX9_trims_19 (by decide) (fun hc2 => ?_) (fun hc2 => ?_)
            · have hc2 := bI_n hc2
              have hjl : j < J1.length := by omega
              have hop := wild_open hJ1 hc2
              have hde := dem_dec hjl hop
              rw [trm_succ hjl hc2 hb9]
              have hx : SJ (dec1 J1 j) (upd f1 (8 + 2 * j + 1) (nI (jo J1 j - 1))) := SJ.setO hS1.2.1 hjl
              have hS2 := hS1.jets hx (by rw [dec1_len]) (fun q hq => upd_n (by have : J1.length ≤ 10 := hS1.2.1.1; omega))
              have : J1.length ≤ 10 := hS1.2.1.1
              refine AF.aload_n dX9_trims_28 rfl ?_
              refine AF.getfield dX9_trims_29 fl_X9_7 (by assumption) rfl ?_
              refine AF.bipush (nI 8) dX9_trims_32 (by decide) ?_
              refine AF.iconst (nI 2) dX9_trims_34 (by decide) ?_
              refine AF.iload_n dX9_trims_35 rfl ?_
              refine AF.imul dX9_trims_36 ?_
              refine AF.iadd dX9_trims_37 ?_
              refine AF.iconst (nI 1) dX9_trims_38 (by decide) ?_
              refine AF.iadd dX9_trims_39 ?_
              refine AF.dup2 dX9_trims_40 rfl rfl ?_
              refine AF.iaload (8 + 2 * j + 1) dX9_trims_41 (by assumption) (by first | rfl | exact nI_1 _ | (simp only [nI_add, pk_mul, nI_1]; exact congrArg nI (by omega)) | simp only [nI_add, pk_mul, nI_1]) (by omega) (by decide) ?_
              refine AF.iconst (nI 1) dX9_trims_42 (by decide) ?_
              refine AF.isub dX9_trims_43 ?_
              rw [show f1 (8 + 2 * j + 1) = nI (jo J1 j) from (hS1.2.1.2 j hjl).2]
              rw [pk_sub hop]
              refine AF.iastoreF (8 + 2 * j + 1) dX9_trims_44 h1 (by omega) (by first | rfl | exact nI_1 _ | (simp only [nI_add, pk_mul, nI_1]; exact congrArg nI (by omega)) | simp only [nI_add, pk_mul, nI_1]) (by omega) (by decide) ?_
              intro F e9 h9 o9
              replace h0 := (o9 (m) (by omega)).trans h0
              replace hR := hR.kept (fun q h1 h2 => o9 q (by omega))
              replace h1 := h9
              replace hfr := hfr.step e9 (by omega) (by omega) o9
              clear e9 h9 o9
              refine AF.inc1 dX9_trims_45 rfl (by decide) ?_
              refine AF.iconst (nI 0) dX9_trims_48 (by decide) ?_
              refine AF.istore_n dX9_trims_49 (by decide) ?_
              refine AF.goto 4 dX9_trims_50 (by decide) ?_
              have h9 := ih (c + 1) (dec1 J1 j) F _ (by omega) (by omega) (by rw [dec1_len]; exact hl) (JI_dec1 hJ1) hS2 ⟨h0, h1, hR⟩ hfr
              rw [show c + 1 + (trm σ.cap σ.w n (dec1 J1 j)).1 = c + ((trm σ.cap σ.w n (dec1 J1 j)).1 + 1) by omega] at h9
              exact h9
            · have hc2 := bI_z hc2
              refine AF.inc1 dX9_trims_22 rfl (by decide) ?_
              refine AF.goto 4 dX9_trims_25 (by decide) ?_
              refine ih2 (j + 1) (by omega) (fun i hi => ?_)
              by_cases e : i = j
              · rw [e]; exact hc2
              · exact hb9 i (by omega)
      exact inner J1.length 0 (by omega) (fun i hi => by omega)
  have hd := dem_le hI.1 hn
  refine AF.iconst (nI 0) dX9_trims_0 (by decide) ?_
  refine AF.istore_n dX9_trims_1 (by decide) ?_
  refine AF.iconst (nI 0) dX9_trims_2 (by decide) ?_
  refine AF.istore_n dX9_trims_3 (by decide) ?_
  have h9 := outer 100 0 σ.J F f hd (by omega) rfl hI.1 hS hM Fr.rf
  rw [Nat.zero_add] at h9
  exact h9
end

