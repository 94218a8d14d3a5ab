/-! The reference: a text of commands is made. -/
def MDc (G : GA) (m : Nat) (σ' : Sg) (g f : Nat → Int32) (A : Nat → Nat → Int32) (p : Nat) (F0 : AH) : AR → AH → Prop := fun r F' => r = .inl (some (.int (nI p))) ∧ Fr m (m + 9) F0 F' ∧ (p = 0 → ∃ f' an, SR σ' f' ∧ MA G F' m (upd g 15 an) f' A) ∧ (¬ p = 0 → MA G F' m g f A)
theorem MD.c {G : GA} {m : Nat} {σ' : Sg} {g f : Nat → Int32} {A : Nat → Nat → Int32} {p : Nat} {an : Int32} {F0 F' : AH} {r : AR} (h : MD G m σ' g f A p an F0 r F') : MDc G m σ' g f A p F0 r F' := by
  obtain ⟨h1, h2, h3, h4⟩ := h
  exact ⟨h1, h2, fun e => by obtain ⟨f', h5, h6⟩ := h3 e; exact ⟨f', an, h5, h6⟩, h4⟩
section
variable {G : GA} {F : AH} {m : Nat} {g f : Nat → Int32} {A : Nat → Nat → Int32} {σ : Sg} {B : Nat}
set_option maxRecDepth 100000 in
set_option maxHeartbeats 4000000 in
theorem X9_does_ok (hM : MA G F m g f A) (ha : gN G ≤ m) (hS : SR σ f) (hI : SI σ B) (hB : B + 40 ≤ 2 ^ 21) (k c : Nat) (hk : k ≤ 58) (hc : c < 9) (ns : List Int32) (hl : ns.length = if c = 3 then 1 else nlen c) (h0' : A 6 (5 * k) = nI (srt c)) (hn : ∀ i, i < ns.length → A 6 (5 * k + 1 + i) = ns.getD i 0) : AC G mX9_does 6 0 0 [.ref m, .int (nI k)] F (MDc G m (aCm σ c ns) g f A (qCm σ c ns) F) := by
  have hM0 := hM
  obtain ⟨h0, h1, h2, h3, h4, h5, h6, h7, h8⟩ := hM
  refine AC.of [some (.ref m), some (.int (nI k)), none, none] rfl (by decide) (Nat.le_of_ble_eq_true rfl) rfl ?_
  have e1 : 0 < ns.length → A 6 (5 * k + 1) = ar ns 0 := fun h => hn 0 h
  have e2 : 1 < ns.length → A 6 (5 * k + 2) = ar ns 1 := fun h => hn 1 h
  have e3 : 2 < ns.length → A 6 (5 * k + 3) = ar ns 2 := fun h => hn 2 h
  have e4 : 3 < ns.length → A 6 (5 * k + 4) = ar ns 3 := fun h => hn 3 h
  refine AF.aload_n dX9_does_0 rfl ?_
  refine AF.getfield dX9_does_1 fl_X9_28 (by assumption) rfl ?_
  refine AF.iconst (nI 5) dX9_does_4 (by decide) ?_
  refine AF.iload_n dX9_does_5 rfl ?_
  refine AF.imul dX9_does_6 ?_
  refine AF.iconst (nI 1) dX9_does_7 (by decide) ?_
  refine AF.iadd dX9_does_8 ?_
  refine AF.iaload (5 * k + 1) dX9_does_9 (by assumption) (by first | rfl | exact nI_1 _ | (simp only [nI_add, pk_mul, nI_1]; exact congrArg nI (by omega)) | simp only [nI_add, pk_mul, nI_1]) (by omega) (by decide) ?_
  refine AF.istore_n dX9_does_10 (by decide) ?_
  refine AF.aload_n dX9_does_11 rfl ?_
  refine AF.getfield dX9_does_12 fl_X9_28 (by assumption) rfl ?_
  refine AF.iconst (nI 5) dX9_does_15 (by decide) ?_
  refine AF.iload_n dX9_does_16 rfl ?_
  refine AF.imul dX9_does_17 ?_
  refine AF.iconst (nI 2) dX9_does_18 (by decide) ?_
  refine AF.iadd dX9_does_19 ?_
  refine AF.iaload (5 * k + 2) dX9_does_20 (by assumption) (by first | rfl | exact nI_1 _ | (simp only [nI_add, pk_mul, nI_1]; exact congrArg nI (by omega)) | simp only [nI_add, pk_mul, nI_1]) (by omega) (by decide) ?_
  refine AF.istore_n dX9_does_21 (by decide) ?_
  refine AF.aload_n dX9_does_22 rfl ?_
  refine AF.getfield dX9_does_23 fl_X9_28 (by assumption) rfl ?_
  refine AF.iconst (nI 5) dX9_does_26 (by decide) ?_
  refine AF.iload_n dX9_does_27 rfl ?_
  refine AF.imul dX9_does_28 ?_
  refine AF.iaload (5 * k) dX9_does_29 (by assumption) (by first | rfl | exact nI_1 _ | (simp only [nI_add, pk_mul, nI_1]; exact congrArg nI (by omega)) | simp only [nI_add, pk_mul, nI_1]) (by omega) (by decide) ?_
  rw [h0']
  rcases (by omega : c = 0 ∨ c = 1 ∨ c = 2 ∨ c = 3 ∨ c = 4 ∨ c = 5 ∨ c = 6 ∨ c = 7 ∨ c = 8) with rfl | rfl | rfl | rfl | rfl | rfl | rfl | rfl | rfl
  · refine AF.switchIn 136 dX9_does_30 (by decide) (by decide) rfl (by decide) ?_
    rw [e1 (by rw [hl]; decide)]
    refine AF.aload_n dX9_does_136 rfl ?_
    refine AF.iload_n dX9_does_137 rfl ?_
    refine AF.vw dX9_does_138 kv_X9_127 (X9_addsJet_ok hM0 ha hS hI (ar ns 0)) (by assumption) rfl rfl rfl (Nat.le_of_ble_eq_true rfl) (by decide) rfl (fun E F9 q => nomatch q.1) (fun v F q => ?_)
    obtain ⟨q, w1, w2, w3⟩ := q
    cases q
    exact AF.ireturn dX9_does_141 rfl (MD.c ⟨rfl, w1, w2, w3⟩)
  · refine AF.switchIn 142 dX9_does_30 (by decide) (by decide) rfl (by decide) ?_
    rw [e1 (by rw [hl]; decide), e2 (by rw [hl]; decide)]
    refine AF.aload_n dX9_does_142 rfl ?_
    refine AF.iload_n dX9_does_143 rfl ?_
    refine AF.iload_n dX9_does_144 rfl ?_
    refine AF.vw dX9_does_145 kv_X9_136 (X9_opens_ok hM0 ha hS (ar ns 0) (ar ns 1)) (by assumption) rfl rfl rfl (Nat.le_of_ble_eq_true rfl) (by decide) rfl (fun E F9 q => nomatch q.1) (fun v F q => ?_)
    obtain ⟨q, w1, w2, w3⟩ := q
    cases q
    exact AF.ireturn dX9_does_148 rfl (MD.c ⟨rfl, w1, w2, w3⟩)
  · refine AF.switchIn 162 dX9_does_30 (by decide) (by decide) rfl (by decide) ?_
    rw [e1 (by rw [hl]; decide)]
    refine AF.aload_n dX9_does_162 rfl ?_
    refine AF.iload_n dX9_does_163 rfl ?_
    refine AF.vw dX9_does_164 kv_X9_150 (X9_pumps_ok hM0 ha hS (ar ns 0)) (by assumption) rfl rfl rfl (Nat.le_of_ble_eq_true rfl) (by decide) rfl (fun E F9 q => nomatch q.1) (fun v F q => ?_)
    obtain ⟨q, w1, w2, w3⟩ := q
    cases q
    exact AF.ireturn dX9_does_167 rfl (MD.c ⟨rfl, w1, w2, w3⟩)
  · refine AF.switchIn 168 dX9_does_30 (by decide) (by decide) rfl (by decide) ?_
    rw [e1 (by rw [hl]; decide)]
    refine AF.aload_n dX9_does_168 rfl ?_
    refine AF.iload_n dX9_does_169 rfl ?_
    refine AF.vw dX9_does_170 kv_X9_153 (X9_blows_ok hM0 ha hS (ar ns 0)) (by assumption) rfl rfl rfl (Nat.le_of_ble_eq_true rfl) (by decide) rfl (fun E F9 q => nomatch q.1) (fun v F q => ?_)
    obtain ⟨q, w1, w2, w3⟩ := q
    cases q
    exact AF.ireturn dX9_does_173 rfl (MD.c ⟨rfl, w1, w2, w3⟩)
  · refine AF.switchIn 174 dX9_does_30 (by decide) (by decide) rfl (by decide) ?_
    refine AF.aload_n dX9_does_174 rfl ?_
    refine AF.vw dX9_does_175 kv_X9_156 (X9_trims_ok hM0 ha hS hI) (by assumption) rfl rfl rfl (Nat.le_of_ble_eq_true rfl) (by decide) rfl (fun E F9 q => nomatch q.1) (fun v F q => ?_)
    obtain ⟨q, w1, w2, w3⟩ := q
    cases q
    exact AF.ireturn dX9_does_178 rfl (MD.c ⟨rfl, w1, w2, w3⟩)
  · refine AF.switchIn 179 dX9_does_30 (by decide) (by decide) rfl (by decide) ?_
    refine AF.aload_n dX9_does_179 rfl ?_
    refine AF.vw dX9_does_180 kv_X9_159 (X9_addsFigure_ok hM0 ha hS) (by assumption) rfl rfl rfl (Nat.le_of_ble_eq_true rfl) (by decide) rfl (fun E F9 q => nomatch q.1) (fun v F q => ?_)
    obtain ⟨q, w1, w2, w3⟩ := q
    cases q
    exact AF.ireturn dX9_does_183 rfl (MD.c ⟨rfl, w1, w2, w3⟩)
  · refine AF.switchIn 184 dX9_does_30 (by decide) (by decide) rfl (by decide) ?_
    rw [e1 (by rw [hl]; decide), e2 (by rw [hl]; decide)]
    refine AF.aload_n dX9_does_184 rfl ?_
    refine AF.iload_n dX9_does_185 rfl ?_
    refine AF.iload_n dX9_does_186 rfl ?_
    refine AF.aload_n dX9_does_187 rfl ?_
    refine AF.getfield dX9_does_188 fl_X9_28 (by assumption) rfl ?_
    refine AF.iconst (nI 5) dX9_does_191 (by decide) ?_
    refine AF.iload_n dX9_does_192 rfl ?_
    refine AF.imul dX9_does_193 ?_
    refine AF.iconst (nI 3) dX9_does_194 (by decide) ?_
    refine AF.iadd dX9_does_195 ?_
    refine AF.iaload (5 * k + 3) dX9_does_196 (by assumption) (by first | rfl | exact nI_1 _ | (simp only [nI_add, pk_mul, nI_1]; exact congrArg nI (by omega)) | simp only [nI_add, pk_mul, nI_1]) (by omega) (by decide) ?_
    rw [e3 (by rw [hl]; decide)]
    refine AF.aload_n dX9_does_197 rfl ?_
    refine AF.getfield dX9_does_198 fl_X9_28 (by assumption) rfl ?_
    refine AF.iconst (nI 5) dX9_does_201 (by decide) ?_
    refine AF.iload_n dX9_does_202 rfl ?_
    refine AF.imul dX9_does_203 ?_
    refine AF.iconst (nI 4) dX9_does_204 (by decide) ?_
    refine AF.iadd dX9_does_205 ?_
    refine AF.iaload (5 * k + 4) dX9_does_206 (by assumption) (by first | rfl | exact nI_1 _ | (simp only [nI_add, pk_mul, nI_1]; exact congrArg nI (by omega)) | simp only [nI_add, pk_mul, nI_1]) (by omega) (by decide) ?_
    rw [e4 (by rw [hl]; decide)]
    refine AF.vw dX9_does_207 kv_X9_165 (X9_addsStep_ok hM0 ha hS (ar ns 0) (ar ns 1) (ar ns 2) (ar ns 3)) (by assumption) rfl rfl rfl (Nat.le_of_ble_eq_true rfl) (by decide) rfl (fun E F9 q => nomatch q.1) (fun v F q => ?_)
    obtain ⟨q, w1, w2, w3⟩ := q
    cases q
    exact AF.ireturn dX9_does_210 rfl (MD.c ⟨rfl, w1, w2, w3⟩)
  · refine AF.switchIn 149 dX9_does_30 (by decide) (by decide) rfl (by decide) ?_
    rw [e1 (by rw [hl]; decide), e2 (by rw [hl]; decide)]
    refine AF.aload_n dX9_does_149 rfl ?_
    refine AF.iload_n dX9_does_150 rfl ?_
    refine AF.iload_n dX9_does_151 rfl ?_
    refine AF.vw dX9_does_152 kv_X9_178 (X9_plays_ok hM0 ha hS (ar ns 0) (ar ns 1)) (by assumption) rfl rfl rfl (Nat.le_of_ble_eq_true rfl) (by decide) rfl (fun E F9 q => nomatch q.1) (fun v F q => ?_)
    obtain ⟨q, w1, w2, w3⟩ := q
    cases q
    exact AF.ireturn dX9_does_155 rfl (MD.c ⟨rfl, w1, w2, w3⟩)
  · refine AF.switchIn 156 dX9_does_30 (by decide) (by decide) rfl (by decide) ?_
    rw [e1 (by rw [hl]; decide)]
    refine AF.aload_n dX9_does_156 rfl ?_
    refine AF.iload_n dX9_does_157 rfl ?_
    refine AF.vw dX9_does_158 kv_X9_184 (X9_passes_ok hM0 ha hS hI hB (ar ns 0)) (by assumption) rfl rfl rfl (Nat.le_of_ble_eq_true rfl) (by decide) rfl (fun E F9 q => nomatch q.1) (fun v F q => ?_)
    obtain ⟨q, w1, w2, w3⟩ := q
    cases q
    exact AF.ireturn dX9_does_161 rfl (MD.c ⟨rfl, w1, w2, w3⟩)
/-- the commands that were read stand in the row told -/
def TDL (L : List (Nat × List Int32)) (td : Nat → Int32) : Prop := ∀ k, k < L.length → (cmd L k).1 < 9 ∧ (cmd L k).2.length = nlen (cmd L k).1 ∧ td (5 * k) = nI (srt (cmd L k).1) ∧ ∀ i, i < (cmA L k).length → td (5 * k + 1 + i) = (cmA L k).getD i 0
theorem TDL.app {L : List (Nat × List Int32)} {td td' : Nat → Int32} {c : Nat} {ns : List Int32} (h : TDL L td) (hlow : ∀ q, q < 5 * L.length → td' q = td q) (hc : c < 9) (hl : ns.length = nlen c) (h1 : td' (5 * L.length) = nI (srt c)) (h2 : ∀ i, i < (tdA c ns).length → td' (5 * L.length + 1 + i) = (tdA c ns).getD i 0) : TDL (L ++ [(c, ns)]) td' := by
  intro k hk
  rw [List.length_append, List.length_singleton] at hk
  have hg : cmd (L ++ [(c, ns)]) k = if k = L.length then (c, ns) else cmd L k := gd_app
  unfold cmA
  rw [hg]
  by_cases e : k = L.length
  · subst e
    rw [if_pos rfl]
    exact ⟨hc, hl, h1, h2⟩
  · rw [if_neg e]
    obtain ⟨q1, q2, q3, q4⟩ := h k (by omega)
    refine ⟨q1, q2, by rw [hlow _ (by omega)]; exact q3, fun i hi => ?_⟩
    have hle : (cmA L k).length ≤ 4 := by
      unfold cmA tdA
      split
      · simp
      · rw [q2]
        have : ∀ c, c < 9 → nlen c ≤ 4 := by decide
        exact this _ q1
    have hi : i < (cmA L k).length := hi
    rw [hlow _ (by omega)]
    exact q4 i hi
theorem tdA_len {c : Nat} {ns : List Int32} (h : ns.length = nlen c) : (tdA c ns).length = if c = 3 then 1 else nlen c := by
  unfold tdA; split
  · rfl
  · exact h
set_option maxRecDepth 100000 in
set_option maxHeartbeats 8000000 in
theorem X9_execute_ok {F0 : AH} {X : XS} {th : Int32} (hM : MX G F0 m X th) (ha : gN G ≤ m) (hI : SQ X.sg B) (hB : B + 2400 ≤ 2 ^ 21) : AC G mX9_execute 8 0 0 [.ref m] F0 (MQq G m (exX X) (exC X) (nI (exP X).2.2.length) F0) := by
  obtain ⟨g, f, A, hM, hS, -, hr⟩ := hM
  have hR1 := X9_remembers_ok hM ha
  obtain ⟨ht1, ht2, ht3⟩ := hr.2.2.1
  have hT : TOK X.tx (uA A 1 (cpU f (A 1) 165)) := ⟨ht2, ht3⟩
  obtain ⟨h0, h1, h2, h3, h4, h5, h6, h7, h8⟩ := hM
  refine AC.of [some (.ref m), none, none] rfl (by decide) (Nat.le_of_ble_eq_true rfl) rfl ?_
  refine AF.aload_n dX9_execute_0 rfl ?_
  refine AF.vw dX9_execute_1 kv_X9_124 (hR1) (by assumption) rfl rfl rfl (Nat.le_of_ble_eq_true rfl) (by decide) rfl (fun E F9 q => nomatch q.1) (fun v F q => ?_)
  obtain ⟨q, hM1, hfr⟩ := q
  cases q
  obtain ⟨h0, h1, h2, h3, h4, h5, h6, h7, h8⟩ := hM1
  refine AF.aload_n dX9_execute_4 rfl ?_
  refine AF.iconst (nI 0) dX9_execute_5 (by decide) ?_
  refine AF.putfieldF dX9_execute_6 fp_X9_211 h0 (by omega) (Nat.le_of_ble_eq_true rfl) rfl rfl (Or.inr fq_6_16) ?_
  intro F e9 h9 o9
  replace h1 := (o9 (m + 1) (by omega)).trans h1
  replace h2 := (o9 (m + 2) (by omega)).trans h2
  replace h3 := (o9 (m + 3) (by omega)).trans h3
  replace h4 := (o9 (m + 4) (by omega)).trans h4
  replace h5 := (o9 (m + 5) (by omega)).trans h5
  replace h6 := (o9 (m + 6) (by omega)).trans h6
  replace h7 := (o9 (m + 7) (by omega)).trans h7
  replace h8 := (o9 (m + 8) (by omega)).trans h8
  replace h0 := h9
  replace hfr := hfr.step e9 (by omega) (by omega) o9
  clear e9 h9 o9
  refine AF.aload_n dX9_execute_9 rfl ?_
  refine AF.aload_n dX9_execute_10 rfl ?_
  refine AF.getfield dX9_execute_11 fl_X9_208 (by assumption) rfl ?_
  rw [show upd g 0 0 11 = nI X.tx.length from ht1]
  refine AF.putfieldF dX9_execute_14 fp_X9_214 h0 (by omega) (Nat.le_of_ble_eq_true rfl) rfl rfl (Or.inr fq_6_17) ?_
  intro F e9 h9 o9
  replace h1 := (o9 (m + 1) (by omega)).trans h1
  replace h2 := (o9 (m + 2) (by omega)).trans h2
  replace h3 := (o9 (m + 3) (by omega)).trans h3
  replace h4 := (o9 (m + 4) (by omega)).trans h4
  replace h5 := (o9 (m + 5) (by omega)).trans h5
  replace h6 := (o9 (m + 6) (by omega)).trans h6
  replace h7 := (o9 (m + 7) (by omega)).trans h7
  replace h8 := (o9 (m + 8) (by omega)).trans h8
  replace h0 := h9
  replace hfr := hfr.step e9 (by omega) (by omega) o9
  clear e9 h9 o9
  refine AF.aload_n dX9_execute_17 rfl ?_
  refine AF.iconst (nI 0) dX9_execute_18 (by decide) ?_
  refine AF.putfieldF dX9_execute_19 fp_X9_208 h0 (by omega) (Nat.le_of_ble_eq_true rfl) rfl rfl (Or.inr fq_6_11) ?_
  intro F e9 h9 o9
  replace h1 := (o9 (m + 1) (by omega)).trans h1
  replace h2 := (o9 (m + 2) (by omega)).trans h2
  replace h3 := (o9 (m + 3) (by omega)).trans h3
  replace h4 := (o9 (m + 4) (by omega)).trans h4
  replace h5 := (o9 (m + 5) (by omega)).trans h5
  replace h6 := (o9 (m + 6) (by omega)).trans h6
  replace h7 := (o9 (m + 7) (by omega)).trans h7
  replace h8 := (o9 (m + 8) (by omega)).trans h8
  replace h0 := h9
  replace hfr := hfr.step e9 (by omega) (by omega) o9
  clear e9 h9 o9
  refine AF.aload_n dX9_execute_22 rfl ?_
  refine AF.iconst (nI 0) dX9_execute_23 (by decide) ?_
  refine AF.putfieldF dX9_execute_24 fp_X9_232 h0 (by omega) (Nat.le_of_ble_eq_true rfl) rfl rfl (Or.inr fq_6_18) ?_
  intro F e9 h9 o9
  replace h1 := (o9 (m + 1) (by omega)).trans h1
  replace h2 := (o9 (m + 2) (by omega)).trans h2
  replace h3 := (o9 (m + 3) (by omega)).trans h3
  replace h4 := (o9 (m + 4) (by omega)).trans h4
  replace h5 := (o9 (m + 5) (by omega)).trans h5
  replace h6 := (o9 (m + 6) (by omega)).trans h6
  replace h7 := (o9 (m + 7) (by omega)).trans h7
  replace h8 := (o9 (m + 8) (by omega)).trans h8
  replace h0 := h9
  replace hfr := hfr.step e9 (by omega) (by omega) o9
  clear e9 h9 o9
  refine AF.aload_n dX9_execute_27 rfl ?_
  refine AF.iconst (nI 0) dX9_execute_28 (by decide) ?_
  refine AF.putfieldF dX9_execute_29 fp_X9_221 h0 (by omega) (Nat.le_of_ble_eq_true rfl) rfl rfl (Or.inr fq_6_19) ?_
  intro F e9 h9 o9
  replace h1 := (o9 (m + 1) (by omega)).trans h1
  replace h2 := (o9 (m + 2) (by omega)).trans h2
  replace h3 := (o9 (m + 3) (by omega)).trans h3
  replace h4 := (o9 (m + 4) (by omega)).trans h4
  replace h5 := (o9 (m + 5) (by omega)).trans h5
  replace h6 := (o9 (m + 6) (by omega)).trans h6
  replace h7 := (o9 (m + 7) (by omega)).trans h7
  replace h8 := (o9 (m + 8) (by omega)).trans h8
  replace h0 := h9
  replace hfr := hfr.step e9 (by omega) (by omega) o9
  clear e9 h9 o9
  -- the numbers as they stand: g2; the rows: A2
  have hMT : MT G F m (upd (upd g 0 0) 11 (nI 0)) f (uA A 1 (cpU f (A 1) 165)) X.tx true 0 0 (uA A 1 (cpU f (A 1) 165) 6) := ⟨upd (upd (upd (upd (upd (upd g 0 0) 16 (nI 0)) 17 (nI X.tx.length)) 11 (nI 0)) 18 (nI 0)) 19 (nI 0), ⟨h0, h1, h2, h3, h4, h5, h6, h7, h8⟩, rfl, rfl, rfl, rfl, fun q hq => by
    rw [upd_n (by omega), upd_n (by omega)]
    by_cases e : q = 11
    · rw [e, upd_s, upd_s]
    · rw [upd_n e, upd_n e, upd_n (by omega), upd_n (by omega)]⟩
  have hrr : MXr (X.sg, X.sv, X.hs, [], X.ou, X.er, X.fa) (upd (upd g 0 0) 11 (nI 0)) (uA A 1 (cpU f (A 1) 165)) := ⟨hr.1, hr.2.1, ⟨rfl, Nat.zero_le _, fun i hi => absurd hi (Nat.not_lt_zero _)⟩, hr.2.2.2.1, hr.2.2.2.2.1, hr.2.2.2.2.2⟩
  have hSf : SR X.sg (uA A 1 (cpU f (A 1) 165) 1) := hS.cp
  have hg20 : upd (upd g 0 0) 11 (nI 0) 0 = nI 0 := rfl
  clear h0 h1 h2 h3 h4 h5 h6 h7 h8 hR1
  generalize upd (upd g 0 0) 11 (nI 0) = g2 at hMT hrr hg20
  generalize uA A 1 (cpU f (A 1) 165) = A2 at hMT hrr hSf hT
  -- the new numbers and rows keep what a state is
  have hkeep : ∀ (X' : XS) (gx : Nat → Int32) (td : Nat → Int32), MXr X' g2 A2 → (∀ k, k < 16 → ¬ k = 0 → ¬ k = 15 → gx k = g2 k) → MXr X' gx (uA A2 6 td) := fun X' gx td h e => by
    obtain ⟨⟨a1, a2⟩, ⟨b1, b2⟩, ⟨c1, c2⟩, ⟨d1, d2⟩, e1, f1⟩ := h
    exact ⟨⟨(e 6 (by omega) (by omega) (by omega)).trans a1, a2⟩, ⟨(e 7 (by omega) (by omega) (by omega)).trans b1, b2⟩, ⟨(e 11 (by omega) (by omega) (by omega)).trans c1, c2⟩, ⟨(e 12 (by omega) (by omega) (by omega)).trans d1, d2⟩, (e 13 (by omega) (by omega) (by omega)).trans e1, (e 14 (by omega) (by omega) (by omega)).trans f1⟩
  have fault : ∀ F1 ok cm td z1 z2, (exP X).1 = false → MT G F1 m g2 f A2 X.tx ok (exP X).2.1 cm td → Fr m (m + 9) F0 F1 → AF G mX9_execute 8 0 0 (MQq G m (exX X) (exC X) (nI (exP X).2.2.length) F0) F1 88 [some (.ref m), z1, z2] [] := by
    intro F1 ok cm td z1 z2 hx hM hfr
    obtain ⟨g', ⟨h0, h1, h2, h3, h4, h5, h6, h7, h8⟩, e16, e17, e18, e19, eg⟩ := hM
    rw [exC, exX, if_pos hx, if_pos hx]
    refine AF.aload_n dX9_execute_88 rfl ?_
    refine AF.aload_n dX9_execute_89 rfl ?_
    refine AF.getfield dX9_execute_90 fl_X9_211 (by assumption) rfl ?_
    rw [e16]
    refine AF.putfieldF dX9_execute_93 fp_X9_34 h0 (by omega) (Nat.le_of_ble_eq_true rfl) rfl rfl (Or.inr fq_6_13) ?_
    intro F e9 h9 o9
    replace h1 := (o9 (m + 1) (by omega)).trans h1
    replace h2 := (o9 (m + 2) (by omega)).trans h2
    replace h3 := (o9 (m + 3) (by omega)).trans h3
    replace h4 := (o9 (m + 4) (by omega)).trans h4
    replace h5 := (o9 (m + 5) (by omega)).trans h5
    replace h6 := (o9 (m + 6) (by omega)).trans h6
    replace h7 := (o9 (m + 7) (by omega)).trans h7
    replace h8 := (o9 (m + 8) (by omega)).trans h8
    replace h0 := h9
    replace hfr := hfr.step e9 (by omega) (by omega) o9
    clear e9 h9 o9
    refine AF.aload_n dX9_execute_96 rfl ?_
    refine AF.iconst (nI 1) dX9_execute_97 (by decide) ?_
    have hM2 : MA G F m (upd g' 13 (nI (exP X).2.1)) f (uA A2 6 td) := ⟨h0, h1, h2, h3, h4, h5, h6, h7, h8⟩
    refine AF.vw dX9_execute_98 kv_X9_54 (X9_fails_ok hM2 ha (nI 1)) (by assumption) rfl rfl rfl (Nat.le_of_ble_eq_true rfl) (by decide) rfl (fun E F9 q => nomatch q.1) (fun v F q => ?_)
    obtain ⟨q, hM3, q3⟩ := q
    cases q
    refine AF.ireturn dX9_execute_101 rfl ⟨rfl, ⟨_, f, _, hM3, hS, rfl, ?_⟩, hfr.trans q3 (Nat.le_refl _) (Nat.le_refl _)⟩
    obtain ⟨⟨a1, a2⟩, ⟨b1, b2⟩, ⟨c1, c2⟩, ⟨d1, d2⟩, e1, f1⟩ := hrr
    exact ⟨⟨(eg 6 (by omega)).trans a1, a2⟩, ⟨(eg 7 (by omega)).trans b1, b2⟩, ⟨(eg 11 (by omega)).trans c1, c2⟩, ⟨(eg 12 (by omega)).trans d1, d2⟩, rfl, (eg 14 (by omega)).trans f1⟩
  have good : ∀ F1 td z1 z2, (exP X).1 = true → (exP X).2.2.length ≤ 58 → TDL (exP X).2.2 td → MT G F1 m g2 f A2 X.tx true (exP X).2.1 (exP X).2.2.length td → Fr m (m + 9) F0 F1 → AF G mX9_execute 8 0 0 (MQq G m (exX X) (exC X) (nI (exP X).2.2.length) F0) F1 102 [some (.ref m), z1, z2] [] := by
    intro F1 td z1 z2 hx hlen hTD hM hfr
    rw [exC, exX, if_neg (by rw [hx]; decide), if_neg (by rw [hx]; decide)]
    generalize (exP X).2.2 = L at *
    obtain ⟨g', hMA, e16, e17, e18, e19, eg⟩ := hM
    have loop : ∀ r k F1 g1 f1, k + r = L.length → (∀ i, i < k → bad X.sg L i = false) → SR (dK X.sg L k) f1 → (∀ q, ¬ q = 15 → g1 q = g' q) → MA G F1 m g1 f1 (uA A2 6 td) → Fr m (m + 9) F0 F1 → AF G mX9_execute 8 0 0 (MQq G m (match fL X.sg L with
        | some k => (X.sg, X.sv, X.hs, [], X.ou, X.er, nI k)
        | none => (dK X.sg L L.length, X.sv, pushH X.hs X.sg, [], X.ou, X.er, X.fa)) (if (fL X.sg L).isSome = true then 2 else 0) (nI L.length) F0) F1 104 [some (.ref m), some (.int (nI k)), z2] [] := by
      intro r
      induction r with
      | zero =>
        intro k F1 g1 f1 hk hb9 hS1 hg1 hM hfr
        rw [show k = L.length by omega] at hS1 hb9 ⊢
        rw [show fL X.sg L = none from fnd_none hb9]
        have hM1 := hM
        have e18' : g1 18 = nI L.length := (hg1 18 (by omega)).trans e18
        have hC := fun x => X9_changed_ok hM1 ha (Hs := X.hs) ((hg1 6 (by omega)).trans ((eg 6 (by omega)).trans hrr.1.1)) hrr.1.2.1 hrr.1.2.2 (σ := X.sg) hSf x
        obtain ⟨h0, h1, h2, h3, h4, h5, h6, h7, h8⟩ := hM
        refine AF.iload_n dX9_execute_104 rfl ?_
        refine AF.aload_n dX9_execute_105 rfl ?_
        refine AF.getfield dX9_execute_106 fl_X9_232 (by assumption) rfl ?_
        rw [e18']
        refine AF.icmp_ge 167 dX9_execute_109 (by decide) (fun hb => ?_) (fun hb => ?_)
        · refine AF.aload_n dX9_execute_167 rfl ?_
          refine AF.aload_n dX9_execute_168 rfl ?_
          refine AF.getfield dX9_execute_169 fl_X9_232 (by assumption) rfl ?_
          rw [e18']
          refine AF.vw dX9_execute_172 kv_X9_50 (hC (nI L.length)) (by assumption) rfl rfl rfl (Nat.le_of_ble_eq_true rfl) (by decide) rfl (fun E F9 q => nomatch q.1) (fun v F q => ?_)
          obtain ⟨q, h', hH, hM3, q3⟩ := q
          cases q
          refine AF.ireturn dX9_execute_175 rfl ⟨rfl, ⟨_, f1, _, hM3, hS1, ?_, ⟨rfl, pushH_le hrr.1.2.1, hH⟩, ?_⟩, hfr.trans q3 (Nat.le_refl _) (Nat.le_refl _)⟩
          · exact (hg1 0 (by omega)).trans ((eg 0 (by omega)).trans hg20)
          · obtain ⟨-, ⟨b1, b2⟩, ⟨c1, c2⟩, ⟨d1, d2⟩, e1, f1⟩ := hrr
            exact ⟨⟨(hg1 7 (by omega)).trans ((eg 7 (by omega)).trans b1), b2⟩, ⟨(hg1 11 (by omega)).trans ((eg 11 (by omega)).trans c1), c2⟩, ⟨(hg1 12 (by omega)).trans ((eg 12 (by omega)).trans d1), d2⟩, (hg1 13 (by omega)).trans ((eg 13 (by omega)).trans e1), (hg1 14 (by omega)).trans ((eg 14 (by omega)).trans f1)⟩
        · exact absurd (Int32.le_refl _) hb
      | succ r ih =>
        intro k F1 g1 f1 hk hb9 hS1 hg1 hM hfr
        have hkl : k < L.length := by omega
        obtain ⟨w1, w2, w3, w4⟩ := hTD k hkl
        have hQ := hI.dK (L := L) k (by omega) hb9
        have e18' : g1 18 = nI L.length := (hg1 18 (by omega)).trans e18
        have hD := X9_does_ok hM ha hS1 hQ.1 (by omega) k (cmd L k).1 (by omega) w1 (cmA L k) (tdA_len w2) w3 w4
        obtain ⟨h0, h1, h2, h3, h4, h5, h6, h7, h8⟩ := hM
        refine AF.iload_n dX9_execute_104 rfl ?_
        refine AF.aload_n dX9_execute_105 rfl ?_
        refine AF.getfield dX9_execute_106 fl_X9_232 (by assumption) rfl ?_
        rw [e18']
        refine AF.icmp_ge 167 dX9_execute_109 (by decide) (fun hb => ?_) (fun hb => ?_)
        · rw [nI_leI (by omega) (by omega)] at hb
          omega
        · refine AF.aload_n dX9_execute_112 rfl ?_
          refine AF.iload_n dX9_execute_113 rfl ?_
          refine AF.vw dX9_execute_114 kv_X9_280 (hD) (by assumption) rfl rfl rfl (Nat.le_of_ble_eq_true rfl) (by decide) rfl (fun E F9 q => nomatch q.1) (fun v F q => ?_)
          obtain ⟨q, q4, hy, hno⟩ := q
          cases q
          replace hfr := hfr.trans q4 (Nat.le_refl _) (Nat.le_refl _)
          by_cases hq : qCm (dK X.sg L k) (cmd L k).1 (cmA L k) = 0
          · obtain ⟨f', an, hS2, hM2⟩ := hy hq
            rw [hq]
            have hbk : bad X.sg L k = false := by unfold bad; rw [decide_eq_true (qCm_0.mp hq)]; rfl
            refine AF.if_ne 123 dX9_execute_117 (by decide) (fun hz => ?_) (fun hz => ?_)
            · exact absurd rfl hz
            · refine AF.goto 161 dX9_execute_120 (by decide) ?_
              refine AF.inc1 dX9_execute_161 rfl (by decide) ?_
              refine AF.goto 104 dX9_execute_164 (by decide) ?_
              exact ih (k + 1) F (upd g1 15 an) f' (by omega) (fun i hi => by
                by_cases e : i = k
                · rw [e]; exact hbk
                · exact hb9 i (by omega)) hS2 (fun q hq => by rw [upd_n hq]; exact hg1 q hq) hM2 hfr
          · have hM2 := hno hq
            have hlt := qCm_lt (σ := dK X.sg L k) (c := (cmd L k).1) (ns := cmA L k)
            have hbk : bad X.sg L k = true := bad_t (fun q => hq (qCm_0.mpr q))
            rw [show fL X.sg L = some k from fnd_some hbk hkl hb9]
            have cpl : ∀ r j F1, j + r = 165 → MA G F1 m g1 (cpU (A2 1) f1 j) (uA A2 6 td) → Fr m (m + 9) F0 F1 → AF G mX9_execute 8 0 0 (MQq G m (X.sg, X.sv, X.hs, [], X.ou, X.er, nI k) 2 (nI L.length) F0) F1 125 [some (.ref m), some (.int (nI k)), some (.int (nI j))] [] := by
              intro r
              induction r with
              | zero =>
                intro j F1 hj hM hfr
                obtain rfl : j = 165 := by omega
                obtain ⟨h0, h1, h2, h3, h4, h5, h6, h7, h8⟩ := hM
                refine AF.iload_n dX9_execute_125 rfl ?_
                refine AF.sipush (nI 165) dX9_execute_126 (by decide) ?_
                refine AF.icmp_ge 150 dX9_execute_129 (by decide) (fun hb5 => ?_) (fun hb5 => ?_)
                · refine AF.aload_n dX9_execute_150 rfl ?_
                  refine AF.iload_n dX9_execute_151 rfl ?_
                  refine AF.putfieldF dX9_execute_152 fp_X9_38 h0 (by omega) (Nat.le_of_ble_eq_true rfl) rfl rfl (Or.inr fq_6_14) ?_
                  intro F e9 h9 o9
                  replace h1 := (o9 (m + 1) (by omega)).trans h1
                  replace h2 := (o9 (m + 2) (by omega)).trans h2
                  replace h3 := (o9 (m + 3) (by omega)).trans h3
                  replace h4 := (o9 (m + 4) (by omega)).trans h4
                  replace h5 := (o9 (m + 5) (by omega)).trans h5
                  replace h6 := (o9 (m + 6) (by omega)).trans h6
                  replace h7 := (o9 (m + 7) (by omega)).trans h7
                  replace h8 := (o9 (m + 8) (by omega)).trans h8
                  replace h0 := h9
                  replace hfr := hfr.step e9 (by omega) (by omega) o9
                  clear e9 h9 o9
                  refine AF.aload_n dX9_execute_155 rfl ?_
                  refine AF.iconst (nI 2) dX9_execute_156 (by decide) ?_
                  have hM5 : MA G F m (upd g1 14 (nI k)) (cpU (A2 1) f1 165) (uA A2 6 td) := ⟨h0, h1, h2, h3, h4, h5, h6, h7, h8⟩
                  refine AF.vw dX9_execute_157 kv_X9_54 (X9_fails_ok hM5 ha (nI 2)) (by assumption) rfl rfl rfl (Nat.le_of_ble_eq_true rfl) (by decide) rfl (fun E F9 q => nomatch q.1) (fun v F q => ?_)
                  obtain ⟨q, hM6, q6⟩ := q
                  cases q
                  refine AF.ireturn dX9_execute_160 rfl ⟨rfl, ⟨_, _, _, hM6, hSf.cp, rfl, ?_⟩, hfr.trans q6 (Nat.le_refl _) (Nat.le_refl _)⟩
                  obtain ⟨⟨a1, a2⟩, ⟨b1, b2⟩, ⟨c1, c2⟩, ⟨d1, d2⟩, e1, f1⟩ := hrr
                  exact ⟨⟨(hg1 6 (by omega)).trans ((eg 6 (by omega)).trans a1), a2⟩, ⟨(hg1 7 (by omega)).trans ((eg 7 (by omega)).trans b1), b2⟩, ⟨(hg1 11 (by omega)).trans ((eg 11 (by omega)).trans c1), c2⟩, ⟨(hg1 12 (by omega)).trans ((eg 12 (by omega)).trans d1), d2⟩, (hg1 13 (by omega)).trans ((eg 13 (by omega)).trans e1), rfl⟩
                · exact absurd (Int32.le_refl _) hb5
              | succ r ih5 =>
                intro j F1 hj hM hfr
                obtain ⟨h0, h1, h2, h3, h4, h5, h6, h7, h8⟩ := hM
                refine AF.iload_n dX9_execute_125 rfl ?_
                refine AF.sipush (nI 165) dX9_execute_126 (by decide) ?_
                refine AF.icmp_ge 150 dX9_execute_129 (by decide) (fun hb5 => ?_) (fun hb5 => ?_)
                · rw [nI_leI (by omega) (by omega)] at hb5
                  omega
                · refine AF.aload_n dX9_execute_132 rfl ?_
                  refine AF.getfield dX9_execute_133 fl_X9_7 (by assumption) rfl ?_
                  refine AF.iload_n dX9_execute_136 rfl ?_
                  refine AF.aload_n dX9_execute_137 rfl ?_
                  refine AF.getfield dX9_execute_138 fl_X9_13 (by assumption) rfl ?_
                  refine AF.iload_n dX9_execute_141 rfl ?_
                  refine AF.iaload (_) dX9_execute_142 (by assumption) rfl (by omega) (by decide) ?_
                  refine AF.iastoreF (_) dX9_execute_143 h1 (by omega) rfl (by omega) (by decide) ?_
                  intro F e9 h9 o9
                  replace h0 := (o9 (m) (by omega)).trans h0
                  replace h2 := (o9 (m + 2) (by omega)).trans h2
                  replace h3 := (o9 (m + 3) (by omega)).trans h3
                  replace h4 := (o9 (m + 4) (by omega)).trans h4
                  replace h5 := (o9 (m + 5) (by omega)).trans h5
                  replace h6 := (o9 (m + 6) (by omega)).trans h6
                  replace h7 := (o9 (m + 7) (by omega)).trans h7
                  replace h8 := (o9 (m + 8) (by omega)).trans h8
                  replace h1 := h9
                  replace hfr := hfr.step e9 (by omega) (by omega) o9
                  clear e9 h9 o9
                  rw [show upd (cpU (A2 1) f1 j) j (uA A2 6 td 1 j) = cpU (A2 1) f1 (j + 1) from cpU_step] at h1
                  refine AF.inc1 dX9_execute_144 rfl (by decide) ?_
                  refine AF.goto 125 dX9_execute_147 (by decide) ?_
                  exact ih5 (j + 1) F (by omega) ⟨h0, h1, h2, h3, h4, h5, h6, h7, h8⟩ hfr
            refine AF.if_ne 123 dX9_execute_117 (by decide) (fun hz => ?_) (fun hz => ?_)
            · refine AF.iconst (nI 0) dX9_execute_123 (by decide) ?_
              refine AF.istore_n dX9_execute_124 (by decide) ?_
              exact cpl 165 0 F (by omega) (by rw [cpU_0]; exact hM2) hfr
            · exact absurd hz (nI_ne0 (by omega) (by omega))
    refine AF.iconst (nI 0) dX9_execute_102 (by decide) ?_
    refine AF.istore_n dX9_execute_103 (by decide) ?_
    exact loop L.length 0 F1 g' f (by omega) (fun i hi => absurd hi (Nat.not_lt_zero _)) hS (fun q _ => rfl) hMA hfr
  have rd : ∀ n p L0 F1 td td' z1 z2, X.tx.length < p + n + 1 → p ≤ X.tx.length → 2 * L0.length ≤ p → exP X = ((psT X.tx (n + 1) p).1, (psT X.tx (n + 1) p).2.1, L0 ++ (psT X.tx (n + 1) p).2.2) → TDL L0 td → ROq X.tx p L0.length td td' → MT G F1 m g2 f A2 X.tx (cmS X.tx p).1 (cmS X.tx p).2.1 (L0.length + 1) td' → Fr m (m + 9) F0 F1 → AF G mX9_execute 8 0 0 (MQq G m (exX X) (exC X) (nI (exP X).2.2.length) F0) F1 36 [some (.ref m), z1, z2] [] := by
    intro n
    induction n with
    | zero =>
      intro p L0 F1 td td' z1 z2 hfu hp hL hex hTD hRO hM hfr
      cases hok : (cmS X.tx p).1 with
      | true =>
        have h1 := cmS_adv hp hok
        have h2 := cmS_le hp
        omega
      | false =>
        have e9 : psT X.tx (0 + 1) p = (false, (cmS X.tx p).2.1, []) := if_pos hok
        rw [e9] at hex
        rw [hok] at hM
        have hM0 := hM
        obtain ⟨g', ⟨h0, h1, h2, h3, h4, h5, h6, h7, h8⟩, e16, e17, e18, e19, eg⟩ := hM
        refine AF.aload_n dX9_execute_36 rfl ?_
        refine AF.getfield dX9_execute_37 fl_X9_221 (by assumption) rfl ?_
        rw [e19]
        refine AF.if_ne 70 dX9_execute_40 (by decide) (fun hw => ?_) (fun hw => ?_)
        · refine AF.aload_n dX9_execute_70 rfl ?_
          refine AF.getfield dX9_execute_71 fl_X9_221 (by assumption) rfl ?_
          rw [e19]
          refine AF.if_ne 88 dX9_execute_74 (by decide) (fun hw2 => ?_) (fun hw2 => ?_)
          · exact fault F1 _ _ _ _ _ (by rw [hex]) (by rw [hex]; exact hM0) hfr
          · exact absurd (show bI true = 0 from hw2) (by decide)
        · exact absurd (show bI true = 0 from hw) (by decide)
    | succ n ih =>
      intro p L0 F1 td td' z1 z2 hfu hp hL hex hTD hRO hM hfr
      have hle := cmS_le hp
      cases hok : (cmS X.tx p).1 with
      | true =>
        obtain ⟨ha1, ha2, ha3⟩ := cmS_adv hp hok
        obtain ⟨r1, r2⟩ := hRO
        obtain ⟨r3, r4⟩ := r2 hok
        have hTD2 := hTD.app r1 ha2 ha3 r3 r4
        rw [hok] at hM
        have hM0 := hM
        have hH := X9_here_ok hM hT (by omega) 0 (by omega)
        rw [Nat.add_zero] at hH
        obtain ⟨g', ⟨h0, h1, h2, h3, h4, h5, h6, h7, h8⟩, e16, e17, e18, e19, eg⟩ := hM
        refine AF.aload_n dX9_execute_36 rfl ?_
        refine AF.getfield dX9_execute_37 fl_X9_221 (by assumption) rfl ?_
        rw [e19]
        refine AF.if_ne 70 dX9_execute_40 (by decide) (fun hw => ?_) (fun hw => ?_)
        · exact absurd rfl hw
        · refine AF.aload_n dX9_execute_43 rfl ?_
          refine AF.iconst (nI 0) dX9_execute_44 (by decide) ?_
          refine AF.v1 dX9_execute_45 kv_X9_225 (hH) (by assumption) rfl rfl rfl (Nat.le_of_ble_eq_true rfl) (by decide) rfl ?_
          refine AF.bipush (nI 59) dX9_execute_48 (by decide) ?_
          refine AF.icmp_ne 70 dX9_execute_50 (by decide) (fun hc => ?_) (fun hc => ?_)
          · have hc : ¬ hereT X.tx (cmS X.tx p).2.1 = 59 := hc
            have e9 : psT X.tx (n + 1 + 1) p = (decide ((cmS X.tx p).2.1 = X.tx.length), (cmS X.tx p).2.1, [(cmC X.tx p, (cmS X.tx p).2.2)]) := by
              show (if _ then _ else _) = _
              rw [if_neg (by rw [hok]; decide), if_neg hc]
            rw [e9] at hex
            refine AF.aload_n dX9_execute_70 rfl ?_
            refine AF.getfield dX9_execute_71 fl_X9_221 (by assumption) rfl ?_
            rw [e19]
            refine AF.if_ne 88 dX9_execute_74 (by decide) (fun hw2 => ?_) (fun hw2 => ?_)
            · exact absurd rfl hw2
            · refine AF.aload_n dX9_execute_77 rfl ?_
              refine AF.getfield dX9_execute_78 fl_X9_211 (by assumption) rfl ?_
              rw [e16]
              refine AF.aload_n dX9_execute_81 rfl ?_
              refine AF.getfield dX9_execute_82 fl_X9_214 (by assumption) rfl ?_
              rw [e17]
              refine AF.icmp_ge 102 dX9_execute_85 (by decide) (fun hg => ?_) (fun hg => ?_)
              · rw [nI_leI (by omega) (by omega)] at hg
                have hpl : (cmS X.tx p).2.1 = X.tx.length := by omega
                refine good F1 td' _ _ (by rw [hex]; exact decide_eq_true hpl) (by rw [hex]; simp only [List.length_append, List.length_singleton]; omega) (by rw [hex]; exact hTD2) (by rw [hex]; simp only [List.length_append, List.length_singleton]; exact hM0) hfr
              · rw [nI_leI (by omega) (by omega)] at hg
                exact fault F1 _ _ _ _ _ (by rw [hex]; exact decide_eq_false (by omega)) (by rw [hex]; exact hM0) hfr
          · have hc : hereT X.tx (cmS X.tx p).2.1 = 59 := hc
            have e9 : psT X.tx (n + 1 + 1) p = ((psT X.tx (n + 1) ((cmS X.tx p).2.1 + 1)).1, (psT X.tx (n + 1) ((cmS X.tx p).2.1 + 1)).2.1, (cmC X.tx p, (cmS X.tx p).2.2) :: (psT X.tx (n + 1) ((cmS X.tx p).2.1 + 1)).2.2) := by
              show (if _ then _ else _) = _
              rw [if_neg (by rw [hok]; decide), if_pos hc]
            have hlt := hereT_lt (T := X.tx) (p := (cmS X.tx p).2.1) (by rw [hc]; decide)
            rw [e9] at hex
            have hex2 : exP X = ((psT X.tx (n + 1) ((cmS X.tx p).2.1 + 1)).1, (psT X.tx (n + 1) ((cmS X.tx p).2.1 + 1)).2.1, (L0 ++ [(cmC X.tx p, (cmS X.tx p).2.2)]) ++ (psT X.tx (n + 1) ((cmS X.tx p).2.1 + 1)).2.2) := by rw [hex, List.append_assoc]; rfl
            refine AF.aload_n dX9_execute_53 rfl ?_
            refine AF.dup dX9_execute_54 rfl ?_
            refine AF.getfield dX9_execute_55 fl_X9_211 (by assumption) rfl ?_
            rw [e16]
            refine AF.iconst (nI 1) dX9_execute_58 (by decide) ?_
            refine AF.iadd dX9_execute_59 ?_
            rw [nI_add]
            refine AF.putfieldF dX9_execute_60 fp_X9_211 h0 (by omega) (Nat.le_of_ble_eq_true rfl) rfl rfl (Or.inr fq_6_16) ?_
            intro F e9 h9 o9
            replace h1 := (o9 (m + 1) (by omega)).trans h1
            replace h2 := (o9 (m + 2) (by omega)).trans h2
            replace h3 := (o9 (m + 3) (by omega)).trans h3
            replace h4 := (o9 (m + 4) (by omega)).trans h4
            replace h5 := (o9 (m + 5) (by omega)).trans h5
            replace h6 := (o9 (m + 6) (by omega)).trans h6
            replace h7 := (o9 (m + 7) (by omega)).trans h7
            replace h8 := (o9 (m + 8) (by omega)).trans h8
            replace h0 := h9
            replace hfr := hfr.step e9 (by omega) (by omega) o9
            clear e9 h9 o9
            refine AF.aload_n dX9_execute_63 rfl ?_
            have hM2 : MT G F m g2 f A2 X.tx true ((cmS X.tx p).2.1 + 1) (L0.length + 1) td' := ⟨upd g' 16 (nI ((cmS X.tx p).2.1 + 1)), ⟨h0, h1, h2, h3, h4, h5, h6, h7, h8⟩, rfl, e17, e18, e19, fun q hq => by rw [upd_n (by omega)]; exact eg q hq⟩
            refine AF.vw dX9_execute_64 kv_X9_277 (X9_readsOne_ok hM2 ha hT (by omega) (by omega)) (by assumption) rfl rfl rfl (Nat.le_of_ble_eq_true rfl) (by decide) rfl (fun E F9 q => nomatch q.1) (fun v F q => ?_)
            obtain ⟨q, ⟨td2, hM3, hRO2⟩, q3⟩ := q
            cases q
            refine AF.goto 36 dX9_execute_67 (by decide) ?_
            have hl1 : (L0 ++ [(cmC X.tx p, (cmS X.tx p).2.2)]).length = L0.length + 1 := by rw [List.length_append]; rfl
            exact ih ((cmS X.tx p).2.1 + 1) (L0 ++ [(cmC X.tx p, (cmS X.tx p).2.2)]) F td' td2 z1 z2 (by omega) (by omega) (by rw [hl1]; omega) hex2 hTD2 (by rw [hl1]; exact hRO2) (by rw [hl1]; exact hM3) (hfr.trans q3 (Nat.le_refl _) (Nat.le_refl _))
      | false =>
        have e9 : psT X.tx (n + 1 + 1) p = (false, (cmS X.tx p).2.1, []) := if_pos hok
        rw [e9] at hex
        rw [hok] at hM
        have hM0 := hM
        obtain ⟨g', ⟨h0, h1, h2, h3, h4, h5, h6, h7, h8⟩, e16, e17, e18, e19, eg⟩ := hM
        refine AF.aload_n dX9_execute_36 rfl ?_
        refine AF.getfield dX9_execute_37 fl_X9_221 (by assumption) rfl ?_
        rw [e19]
        refine AF.if_ne 70 dX9_execute_40 (by decide) (fun hw => ?_) (fun hw => ?_)
        · refine AF.aload_n dX9_execute_70 rfl ?_
          refine AF.getfield dX9_execute_71 fl_X9_221 (by assumption) rfl ?_
          rw [e19]
          refine AF.if_ne 88 dX9_execute_74 (by decide) (fun hw2 => ?_) (fun hw2 => ?_)
          · exact fault F1 _ _ _ _ _ (by rw [hex]) (by rw [hex]; exact hM0) hfr
          · exact absurd (show bI true = 0 from hw2) (by decide)
        · exact absurd (show bI true = 0 from hw) (by decide)
  obtain ⟨g', ⟨h0, h1, h2, h3, h4, h5, h6, h7, h8⟩, -⟩ := id hMT
  refine AF.aload_n dX9_execute_32 rfl ?_
  refine AF.vw dX9_execute_33 kv_X9_277 (X9_readsOne_ok hMT ha hT (Nat.zero_le _) (by omega)) (by assumption) rfl rfl rfl (Nat.le_of_ble_eq_true rfl) (by decide) rfl (fun E F9 q => nomatch q.1) (fun v F q => ?_)
  obtain ⟨q, ⟨td2, hM3, hRO2⟩, q3⟩ := q
  cases q
  exact rd 60 0 [] F (A2 6) td2 _ _ (by omega) (Nat.zero_le _) (Nat.le_refl _) rfl (fun k hk => absurd hk (Nat.not_lt_zero _)) hRO2 hM3 (hfr.trans q3 (Nat.le_refl _) (Nat.le_refl _))
end

