/-! The reference: removing jets and figures. -/
theorem iinc_m1 {c : Nat} : nI c + Int32.ofInt (-1) = nI c - 1 := by rw [Int32.sub_eq_add_neg]; rfl
theorem fgt_cons {x : Nat} {s : Sp} {L : List Sp} : fgt x (s :: L) = (if s.2.1 = x then [] else [fg1 x s]) ++ fgt x L := by
  unfold fgt
  by_cases h : s.2.1 = x
  · rw [if_pos h, List.filter_cons_of_neg (p := fun s : Sp => !decide (s.2.1 = x)) (by simp [h])]; rfl
  · rw [if_neg h, List.filter_cons_of_pos (p := fun s : Sp => !decide (s.2.1 = x)) (by simp [h])]; rfl
theorem g3_get {L : List Sp} {c : Nat} (h : c < L.length) : g3 L c = L[c] := by rw [g3, List.getD_eq_getElem?_getD, List.getElem?_eq_getElem h]; rfl
/-- the steps when those from c on were looked at -/
def fgL (x : Nat) (L : List Sp) (c : Nat) : List Sp := L.take c ++ fgt x (L.drop c)
theorem fgL_all {x : Nat} {L : List Sp} : fgL x L L.length = L := by simp [fgL, fgt]
theorem fgL_0 {x : Nat} {L : List Sp} : fgL x L 0 = fgt x L := by simp [fgL]
theorem fgL_len {x c : Nat} {L : List Sp} (h : c ≤ L.length) : (fgL x L c).length = c + (fgt x (L.drop c)).length := by
  rw [fgL, List.length_append, List.length_take, Nat.min_eq_left h]
theorem fgL_le {x c : Nat} {L : List Sp} (h : c ≤ L.length) : (fgL x L c).length ≤ L.length := by
  rw [fgL_len h]
  have : (fgt x (L.drop c)).length ≤ _ := fgt_le
  rw [List.length_drop] at this
  omega
theorem fgL_succ {x c : Nat} {L : List Sp} (h : c < L.length) : fgL x L (c + 1) = L.take c ++ (g3 L c :: fgt x (L.drop (c + 1))) := by
  rw [fgL, List.take_succ_eq_append_getElem h, g3_get h, List.append_assoc]; rfl
theorem fgL_at {x c : Nat} {L : List Sp} (h : c < L.length) : g3 (fgL x L (c + 1)) c = g3 L c := by
  rw [fgL_succ h, g3, List.getD_eq_getElem?_getD, List.getElem?_append_right (by rw [List.length_take]; omega), List.length_take, Nat.min_eq_left (by omega), Nat.sub_self]
  rfl
theorem fgL_prev {x c : Nat} {L : List Sp} (h : c < L.length) : fgL x L c = L.take c ++ ((if (g3 L c).2.1 = x then [] else [fg1 x (g3 L c)]) ++ fgt x (L.drop (c + 1))) := by
  rw [fgL, List.drop_eq_getElem_cons h, fgt_cons, g3_get h]
theorem fgL_eq {x c : Nat} {L : List Sp} (h : c < L.length) (e : (g3 L c).2.1 = x) : (fgL x L (c + 1)).eraseIdx c = fgL x L c := by
  rw [fgL_succ h, fgL_prev h, if_pos e, List.eraseIdx_append_of_length_le (by rw [List.length_take]; omega), List.length_take, Nat.min_eq_left (by omega), Nat.sub_self]
  rfl
theorem fgL_lt {x c : Nat} {L : List Sp} (h : c < L.length) (e : (g3 L c).2.1 < x) : fgL x L (c + 1) = fgL x L c := by
  rw [fgL_succ h, fgL_prev h, if_neg (by omega), fg1, if_neg (by omega)]; rfl
theorem fgL_gt {x c : Nat} {L : List Sp} (h : c < L.length) (e : x < (g3 L c).2.1) : (fgL x L (c + 1)).set c ((g3 L c).1, (g3 L c).2.1 - 1, (g3 L c).2.2) = fgL x L c := by
  rw [fgL_succ h, fgL_prev h, if_neg (by omega), fg1, if_pos e, List.set_append_right _ _ (by rw [List.length_take]; omega), List.length_take, Nat.min_eq_left (by omega), Nat.sub_self]
  rfl
theorem g3_set {L : List Sp} {j i : Nat} {q : Sp} : g3 (L.set j q) i = if i = j ∧ j < L.length then q else g3 L i := gd_set
theorem SG.setJ {Fg : List (List Sp)} {f : Nat → Int32} {i c y : Nat} (h : SG Fg f) (hi : i < Fg.length) (hc : c < (fg Fg i).length) : SG (Fg.set i ((fg Fg i).set c ((g3 (fg Fg i) c).1, y, (g3 (fg Fg i) c).2.2))) (upd f (28 + 25 * i + 1 + 3 * c + 1) (nI y)) := by
  obtain ⟨h8, hsc, hrow⟩ := h.2 i hi
  refine h.row hi (by rw [List.length_set]; exact h8) (by rw [upd_n (by omega), hsc, List.length_set]) (fun k hk => ?_) (fun q q1 q2 q3 => upd_n (by omega))
  rw [List.length_set] at hk
  rw [g3_set, upd_n (by omega)]
  by_cases e : k = c
  · subst e
    rw [if_pos ⟨rfl, hc⟩, upd_s, upd_n (by omega)]
    exact ⟨(hrow k hk).1, rfl, (hrow k hk).2.2⟩
  · rw [if_neg (fun q => e q.1), upd_n (by omega), upd_n (by omega)]
    exact hrow k hk
/-- figures: the first j done, in the j-th those from c on -/
def fgM (x : Nat) (Fg : List (List Sp)) (j c : Nat) : List (List Sp) := (fgS x Fg j).set j (fgL x (fg Fg j) c)
theorem set_self {α : Type} {L : List α} {z : α} {j : Nat} : L.set j (L.getD j z) = L := by
  apply List.ext_getElem?
  intro i
  rw [List.getElem?_set]
  split
  · rename_i e
    subst e
    split
    · rename_i h; rw [List.getD_eq_getElem?_getD, List.getElem?_eq_getElem h]; rfl
    · rename_i h; rw [List.getElem?_eq_none (by omega)]
  · rfl
theorem fgM_all {x : Nat} {Fg : List (List Sp)} {j : Nat} (h : j < Fg.length) : fgM x Fg j (fg Fg j).length = fgS x Fg j := by
  rw [fgM, fgL_all]
  have := fgS_get (x := x) (Fg := Fg) (m := j) j (by omega)
  rw [if_neg (by omega)] at this
  rw [← this]
  exact set_self
theorem fgM_0 {x : Nat} {Fg : List (List Sp)} {j : Nat} (h : j < Fg.length) : fgM x Fg j 0 = fgS x Fg (j + 1) := by
  rw [fgM, fgL_0, fgS, fgS_get j (by omega), if_neg (by omega)]
theorem fgM_len {x : Nat} {Fg : List (List Sp)} {j c : Nat} : (fgM x Fg j c).length = Fg.length := by rw [fgM, List.length_set, fgS_len]
theorem fgM_at {x : Nat} {Fg : List (List Sp)} {j c : Nat} (h : j < Fg.length) : fg (fgM x Fg j c) j = fgL x (fg Fg j) c := by
  rw [fg, fgM, gd_set, if_pos ⟨rfl, by rw [fgS_len]; exact h⟩]
theorem fgM_set {x : Nat} {Fg : List (List Sp)} {j c : Nat} {L : List Sp} : (fgM x Fg j c).set j L = (fgS x Fg j).set j L := by rw [fgM, List.set_set]
theorem SJ.era {J : List Jt} {f f' : Nat → Int32} {x : Nat} (h : SJ J f) (hx : x < J.length) (h1 : ∀ q, 8 ≤ q → q < 8 + 2 * x → f' q = f q) (h2 : ∀ q, 8 + 2 * x ≤ q → q < 8 + 2 * (J.length - 1) → f' q = f (q + 2)) : SJ (J.eraseIdx x) f' := by
  have e5 : (J.eraseIdx x).length = J.length - 1 := List.length_eraseIdx_of_lt hx
  have h5 := h.1
  refine ⟨by rw [e5]; omega, fun i hi => ?_⟩
  rw [e5] at hi
  rw [jp_era, jo_era]
  by_cases e : i < x
  · rw [if_pos e, if_pos e, h1 _ (by omega) (by omega), h1 _ (by omega) (by omega)]
    exact h.2 i (by omega)
  · rw [if_neg e, if_neg e, h2 _ (by omega) (by omega), h2 _ (by omega) (by omega), show 8 + 2 * i + 2 = 8 + 2 * (i + 1) by omega, show 8 + 2 * i + 1 + 2 = 8 + 2 * (i + 1) + 1 by omega]
    exact h.2 (i + 1) (by omega)
theorem SE.dc {E : List En} {f f' : Nat → Int32} {x : Nat} (h : SE E f) (h1 : ∀ i, i < E.length → f' (153 + 2 * i) = nI (dcF x (en E i)).1) (h2 : ∀ i, i < E.length → f' (153 + 2 * i + 1) = nI (en E i).2) : SE (E.map (dcF x)) f' := by
  refine ⟨by rw [List.length_map]; exact h.1, fun i hi => ?_⟩
  rw [List.length_map] at hi
  rw [en_map hi]
  exact ⟨h1 i hi, h2 i hi⟩
def rmC (x : Nat) (Fg : List (List Sp)) (i : Nat) : Nat := (fg Fg i).length - (fgt x (fg Fg i)).length
section
variable {G : GA} {F : AH} {m : Nat} {g f : Nat → Int32} {A : Nat → Nat → Int32} {σ : Sg} {B : Nat} {Fg : List (List Sp)}
set_option maxRecDepth 100000 in
set_option maxHeartbeats 4000000 in
theorem X9_removesJet_ok (hM : MA G F m g f A) (ha : gN G ≤ m) (hS : SR σ f) (hI : SI σ B) (x : Int32) : AC G mX9_removesJet 3 0 0 [.ref m, .int x] F (MD G m (aRmJ σ x) g f A (if hasB σ.J.length x = true then 0 else 1) (nI (sumN (rmC (cl x) σ.Fg) σ.Fg.length)) F) := by
  have hT := X9_isJet_ok hM hS x
  have hn := hS.2.1.1
  have h5 := hS.2.2.1.1
  have hM0 := hM
  obtain ⟨h0, h1, hR⟩ := hM
  refine AC.of [some (.ref m), some (.int x), none, none, none] rfl (by decide) (Nat.le_of_ble_eq_true rfl) rfl ?_
  have hfr : Fr m (m + 9) F F := Fr.rf
  refine AF.aload_n dX9_removesJet_0 rfl ?_
  refine AF.iload_n dX9_removesJet_1 rfl ?_
  refine AF.v1 dX9_removesJet_2 kv_X9_90 (hT) (by assumption) rfl rfl rfl (Nat.le_of_ble_eq_true rfl) (by decide) rfl ?_
  refine AF.if_ne 10 dX9_removesJet_5 (by decide) (fun c1 => ?_) (fun c1 => ?_)
  · have c1 := bI_n c1
    rw [if_pos c1]
    obtain ⟨x, hx, rfl⟩ := hasB_nI (by omega) c1
    rw [cl_nI (by omega)]
    have e8 : aRmJ σ (nI x) = (σ.J.eraseIdx x, σ.cap, σ.w, σ.Fg.map (fgt x), σ.E, σ.bt, σ.pum, σ.sht) := by unfold aRmJ; rw [cl_nI (by omega)]
    rw [e8]
    have hlen : (σ.J.eraseIdx x).length = σ.J.length - 1 := List.length_eraseIdx_of_lt hx
    generalize hn0 : σ.J.length - 1 = n at hlen
    have hn1 : σ.J.length = n + 1 := by omega
    generalize hN : sumN (rmC x σ.Fg) σ.Fg.length = N
    have jl : ∀ k j F1 f1 z3 , j + k = 2 * n → 2 * x ≤ j → (∀ q, q < 28 → f1 q = f q) → (∀ q, 153 ≤ q → f1 q = f q) → SG (σ.Fg.map (fgt x)) f1 → MA G F1 m g (shf f1 (8 + 2 * x) (8 + j) 2) A → Fr m (m + 9) F F1 → z3 = n → AF G mX9_removesJet 3 0 0 (MD G m (σ.J.eraseIdx x, σ.cap, σ.w, σ.Fg.map (fgt x), σ.E, σ.bt, σ.pum, σ.sht) g f A 0 (nI N) F) F1 126 [some (.ref m), some (.int (nI x)), some (.int (nI N)), some (.int (nI z3)), some (.int (nI j))] [] := by
      intro k
      induction k with
      | zero =>
        intro j F1 f1 z3 hj hxj hq1 hq2 hG hM hfr hz
        subst hz
        obtain rfl : j = 2 * z3 := by omega
        obtain ⟨h0, h1, hR⟩ := hM
        refine AF.iload dX9_removesJet_126 rfl ?_
        refine AF.iconst (nI 2) dX9_removesJet_128 (by decide) ?_
        refine AF.iload_n dX9_removesJet_129 rfl ?_
        refine AF.imul dX9_removesJet_130 ?_
        rw [pk_mul]
        refine AF.icmp_ge 162 dX9_removesJet_131 (by decide) (fun hb => ?_) (fun hb => ?_)
        · refine AF.aload_n dX9_removesJet_162 rfl ?_
          refine AF.getfield dX9_removesJet_163 fl_X9_7 (by assumption) rfl ?_
          refine AF.bipush (nI 8) dX9_removesJet_166 (by decide) ?_
          refine AF.iconst (nI 2) dX9_removesJet_168 (by decide) ?_
          refine AF.iload_n dX9_removesJet_169 rfl ?_
          refine AF.imul dX9_removesJet_170 ?_
          refine AF.iadd dX9_removesJet_171 ?_
          refine AF.iconst (nI 0) dX9_removesJet_172 (by decide) ?_
          refine AF.iastoreF (8 + 2 * z3) dX9_removesJet_173 h1 (by omega) (by first | rfl | exact nI_1 _ | (simp only [nI_add, pk_mul, nI_1]; exact congrArg nI (by omega)) | simp only [nI_add, pk_mul, nI_1]) (by omega) (by decide) ?_
          intro F e9 h9 o9
          replace h0 := (o9 (m) (by omega)).trans h0
          replace hR := hR.kept (fun q h1 h2 => o9 q (by omega))
          replace h1 := h9
          replace hfr := hfr.step e9 (by omega) (by omega) o9
          clear e9 h9 o9
          refine AF.aload_n dX9_removesJet_174 rfl ?_
          refine AF.getfield dX9_removesJet_175 fl_X9_7 (by assumption) rfl ?_
          refine AF.bipush (nI 8) dX9_removesJet_178 (by decide) ?_
          refine AF.iconst (nI 2) dX9_removesJet_180 (by decide) ?_
          refine AF.iload_n dX9_removesJet_181 rfl ?_
          refine AF.imul dX9_removesJet_182 ?_
          refine AF.iadd dX9_removesJet_183 ?_
          refine AF.iconst (nI 1) dX9_removesJet_184 (by decide) ?_
          refine AF.iadd dX9_removesJet_185 ?_
          refine AF.iconst (nI 0) dX9_removesJet_186 (by decide) ?_
          refine AF.iastoreF (8 + 2 * z3 + 1) dX9_removesJet_187 h1 (by omega) (by first | rfl | exact nI_1 _ | (simp only [nI_add, pk_mul, nI_1]; exact congrArg nI (by omega)) | simp only [nI_add, pk_mul, nI_1]) (by omega) (by decide) ?_
          intro F e9 h9 o9
          replace h0 := (o9 (m) (by omega)).trans h0
          replace hR := hR.kept (fun q h1 h2 => o9 q (by omega))
          replace h1 := h9
          replace hfr := hfr.step e9 (by omega) (by omega) o9
          clear e9 h9 o9
          refine AF.aload_n dX9_removesJet_188 rfl ?_
          refine AF.getfield dX9_removesJet_189 fl_X9_7 (by assumption) rfl ?_
          refine AF.iconst (nI 0) dX9_removesJet_192 (by decide) ?_
          refine AF.iload_n dX9_removesJet_193 rfl ?_
          refine AF.iastoreF (0) dX9_removesJet_194 h1 (by omega) (by first | rfl | exact nI_1 _ | (simp only [nI_add, pk_mul, nI_1]; exact congrArg nI (by omega)) | simp only [nI_add, pk_mul, nI_1]) (by omega) (by decide) ?_
          intro F e9 h9 o9
          replace h0 := (o9 (m) (by omega)).trans h0
          replace hR := hR.kept (fun q h1 h2 => o9 q (by omega))
          replace h1 := h9
          replace hfr := hfr.step e9 (by omega) (by omega) o9
          clear e9 h9 o9
          refine AF.aload_n dX9_removesJet_195 rfl ?_
          refine AF.iload_n dX9_removesJet_196 rfl ?_
          refine AF.vw dX9_removesJet_197 kv_X9_87 (X9_done_ok ⟨h0, h1, hR⟩ ha (nI N)) (by assumption) rfl rfl rfl (Nat.le_of_ble_eq_true rfl) (by decide) rfl (fun E F9 q => nomatch q.1) (fun v F q => ?_)
          obtain ⟨q, hM, q2⟩ := q
          cases q
          have hk : ∀ q, (q < 8 ∨ 28 ≤ q) → ¬ q = 0 → upd (upd (upd (shf f1 (8 + 2 * x) (8 + 2 * z3) 2) (8 + 2 * z3) (nI 0)) (8 + 2 * z3 + 1) (nI 0)) 0 (nI z3) q = f1 q := fun q q1 q2 => by
            rw [upd_n q2, upd_n (by omega), upd_n (by omega), shf_o (by omega)]
          obtain ⟨⟨a0, a1, a2, a3, a4, a5, a6, a7⟩, hJ, -, hE⟩ := hS
          refine AF.ireturn dX9_removesJet_200 rfl (MD.yes ⟨⟨?_, ?_, ?_, ?_, ?_, ?_, ?_, ?_⟩, hJ.era hx (fun q q1 q2 => ?_) (fun q q1 q2 => ?_), hG.kept (fun q q1 q2 => hk q (by omega) (by omega)), hE.kept (fun q q1 q2 => by rw [hk q (by omega) (by omega)]; exact hq2 q q1)⟩ hM (hfr.trans q2 (Nat.le_refl _) (Nat.le_refl _)))
          · rw [upd_s]; show _ = nI (σ.J.eraseIdx x).length; rw [hlen]
          · rw [hk _ (by omega) (by omega), hq1 _ (by omega), a1]; show _ = nI (σ.Fg.map (fgt x)).length; rw [List.length_map]
          · rw [hk _ (by omega) (by omega), hq1 _ (by omega)]; exact a2
          · rw [hk _ (by omega) (by omega), hq1 _ (by omega)]; exact a3
          · rw [hk _ (by omega) (by omega), hq1 _ (by omega)]; exact a4
          · rw [hk _ (by omega) (by omega), hq1 _ (by omega)]; exact a5
          · rw [hk _ (by omega) (by omega), hq1 _ (by omega)]; exact a6
          · rw [hk _ (by omega) (by omega), hq1 _ (by omega)]; exact a7
          · rw [upd_n (by omega), upd_n (by omega), upd_n (by omega), shf_o (by omega)]; exact hq1 q (by omega)
          · rw [upd_n (by omega), upd_n (by omega), upd_n (by omega), shf_i (by omega) (by omega)]; exact hq1 _ (by omega)
        · exact absurd (Int32.le_refl _) hb
      | succ k ih =>
        intro j F1 f1 z3 hj hxj hq1 hq2 hG hM hfr hz
        subst hz
        obtain ⟨h0, h1, hR⟩ := hM
        refine AF.iload dX9_removesJet_126 rfl ?_
        refine AF.iconst (nI 2) dX9_removesJet_128 (by decide) ?_
        refine AF.iload_n dX9_removesJet_129 rfl ?_
        refine AF.imul dX9_removesJet_130 ?_
        rw [pk_mul]
        refine AF.icmp_ge 162 dX9_removesJet_131 (by decide) (fun hb => ?_) (fun hb => ?_)
        · rw [nI_leI (by omega) (by omega)] at hb
          omega
        · refine AF.aload_n dX9_removesJet_134 rfl ?_
          refine AF.getfield dX9_removesJet_135 fl_X9_7 (by assumption) rfl ?_
          refine AF.bipush (nI 8) dX9_removesJet_138 (by decide) ?_
          refine AF.iload dX9_removesJet_140 rfl ?_
          refine AF.iadd dX9_removesJet_142 ?_
          refine AF.aload_n dX9_removesJet_143 rfl ?_
          refine AF.getfield dX9_removesJet_144 fl_X9_7 (by assumption) rfl ?_
          refine AF.bipush (nI 8) dX9_removesJet_147 (by decide) ?_
          refine AF.iload dX9_removesJet_149 rfl ?_
          refine AF.iadd dX9_removesJet_151 ?_
          refine AF.iconst (nI 2) dX9_removesJet_152 (by decide) ?_
          refine AF.iadd dX9_removesJet_153 ?_
          refine AF.iaload (8 + j + 2) dX9_removesJet_154 (by assumption) (by first | rfl | exact nI_1 _ | (simp only [nI_add, pk_mul, nI_1]; exact congrArg nI (by omega)) | simp only [nI_add, pk_mul, nI_1]) (by omega) (by decide) ?_
          refine AF.iastoreF (8 + j) dX9_removesJet_155 h1 (by omega) (by first | rfl | exact nI_1 _ | (simp only [nI_add, pk_mul, nI_1]; exact congrArg nI (by omega)) | simp only [nI_add, pk_mul, nI_1]) (by omega) (by decide) ?_
          intro F e9 h9 o9
          replace h0 := (o9 (m) (by omega)).trans h0
          replace hR := hR.kept (fun q h1 h2 => o9 q (by omega))
          replace h1 := h9
          replace hfr := hfr.step e9 (by omega) (by omega) o9
          clear e9 h9 o9
          rw [shf_step (by omega)] at h1
          refine AF.inc1 dX9_removesJet_156 rfl (by decide) ?_
          refine AF.goto 126 dX9_removesJet_159 (by decide) ?_
          exact ih (j + 1) F f1 z3 (by omega) (by omega) hq1 hq2 hG ⟨h0, h1, hR⟩ hfr rfl
    have ol : ∀ k j F1 f1 z4, j + k = σ.Fg.length → (∀ q, q < 28 → f1 q = f q) → (∀ q, 153 ≤ q → f1 q = f q) → SG (fgS x σ.Fg j) f1 → MA G F1 m g f1 A → Fr m (m + 9) F F1 → AF G mX9_removesJet 3 0 0 (MD G m (σ.J.eraseIdx x, σ.cap, σ.w, σ.Fg.map (fgt x), σ.E, σ.bt, σ.pum, σ.sht) g f A 0 (nI N) F) F1 14 [some (.ref m), some (.int (nI x)), some (.int (nI (sumN (rmC x σ.Fg) j))), some (.int (nI j)), z4] [] := by
      intro k
      induction k with
      | zero =>
        intro j F1 f1 z4 hj hq1 hq2 hG hM hfr
        have hM1 := hM
        obtain ⟨h0, h1, hR⟩ := hM
        refine AF.iload_n dX9_removesJet_14 rfl ?_
        refine AF.aload_n dX9_removesJet_15 rfl ?_
        refine AF.getfield dX9_removesJet_16 fl_X9_7 (by assumption) rfl ?_
        refine AF.iconst (nI 1) dX9_removesJet_19 (by decide) ?_
        refine AF.iaload (_) dX9_removesJet_20 (by assumption) rfl (by omega) (by decide) ?_
        rw [hq1 1 (by omega), hS.1.2.1]
        refine AF.icmp_ge 112 dX9_removesJet_21 (by decide) (fun hb => ?_) (fun hb => ?_)
        · rw [show j = σ.Fg.length by omega] at hG ⊢
          rw [hN]
          rw [fgS_end] at hG
          refine AF.aload_n dX9_removesJet_112 rfl ?_
          refine AF.getfield dX9_removesJet_113 fl_X9_7 (by assumption) rfl ?_
          refine AF.iconst (nI 0) dX9_removesJet_116 (by decide) ?_
          refine AF.iaload (_) dX9_removesJet_117 (by assumption) rfl (by omega) (by decide) ?_
          rw [hq1 0 (by omega), hS.1.1, hn1]
          refine AF.iconst (nI 1) dX9_removesJet_118 (by decide) ?_
          refine AF.isub dX9_removesJet_119 ?_
          rw [show nI (n + 1) - nI 1 = nI n from nI_pred n]
          refine AF.istore_n dX9_removesJet_120 (by decide) ?_
          refine AF.iconst (nI 2) dX9_removesJet_121 (by decide) ?_
          refine AF.iload_n dX9_removesJet_122 rfl ?_
          refine AF.imul dX9_removesJet_123 ?_
          rw [pk_mul]
          refine AF.istore dX9_removesJet_124 (by decide) ?_
          exact jl (2 * n - 2 * x) (2 * x) F1 f1 n (by omega) (Nat.le_refl _) hq1 hq2 hG (by rw [shf_0]; exact hM1) hfr rfl
        · exact absurd (by rw [nI_leI (by omega) (by omega)]; omega) hb
      | succ k ih =>
        intro j F1 f1 z4 hj hq1 hq2 hG hM hfr
        have hjl : j < σ.Fg.length := by omega
        have h8 := (hS.2.2.1.2 j hjl).1
        have hM1 := hM
        have hst : fg (fgS x σ.Fg j) j = fg σ.Fg j := by rw [fgS_get j (by omega), if_neg (by omega)]
        have hV := X9_steps_ok hM1 j (by omega)
        rw [(hG.2 j (by rw [fgS_len]; exact hjl)).2.1, hst] at hV
        have il : ∀ c F1 f1, c ≤ (fg σ.Fg j).length → (∀ q, q < 28 → f1 q = f q) → (∀ q, 153 ≤ q → f1 q = f q) → SG (fgM x σ.Fg j c) f1 → MA G F1 m g f1 A → Fr m (m + 9) F F1 → AF G mX9_removesJet 3 0 0 (MD G m (σ.J.eraseIdx x, σ.cap, σ.w, σ.Fg.map (fgt x), σ.E, σ.bt, σ.pum, σ.sht) g f A 0 (nI N) F) F1 33 [some (.ref m), some (.int (nI x)), some (.int (nI (sumN (rmC x σ.Fg) j + ((fg σ.Fg j).length - (fgL x (fg σ.Fg j) c).length)))), some (.int (nI j)), some (.int (nI c - 1))] [] := by
          intro c
          induction c with
          | zero =>
            intro F1 f1 hc hq1 hq2 hG hM hfr
            refine AF.iload dX9_removesJet_33 rfl ?_
            refine AF.if_lt 106 dX9_removesJet_35 (by decide) (fun hb => ?_) (fun hb => ?_)
            · rw [fgM_0 hjl] at hG
              refine AF.inc1 dX9_removesJet_106 rfl (by decide) ?_
              refine AF.goto 14 dX9_removesJet_109 (by decide) ?_
              have h9 := ih (j + 1) F1 f1 (some (.int (nI 0 - 1))) (by omega) hq1 hq2 hG hM hfr
              rw [fgL_0]
              exact h9
            · exact absurd (show nI 0 - 1 < (0 : Int32) by decide) hb
          | succ c ihc =>
            intro F1 f1 hc hq1 hq2 hG hM hfr
            have hM1 := hM
            have hcl : c < (fg σ.Fg j).length := hc
            have hjm : j < (fgM x σ.Fg j (c + 1)).length := by rw [fgM_len]; exact hjl
            have hcm : c < (fg (fgM x σ.Fg j (c + 1)) j).length := by rw [fgM_at hjl, fgL_len hc]; omega
            have hrow := (hG.2 j hjm).2.2 c hcm
            rw [fgM_at hjl, fgL_at hcl] at hrow
            have hjt : (g3 (fg σ.Fg j) c).2.1 < 10 := by have := (hI.2.2.1 j c hcl).2.1; omega
            have hA := X9_at_ok hM1 j c 1 (by omega) (by omega) (by omega)
            rw [hrow.2.1] at hA
            have hle := fgL_le (x := x) hc
            have hle2 := fgL_le (x := x) (L := fg σ.Fg j) (c := c) (by omega)
            obtain ⟨h0, h1, hR⟩ := hM
            refine AF.iload dX9_removesJet_33 rfl ?_
            rw [nI_pred]
            refine AF.if_lt 106 dX9_removesJet_35 (by decide) (fun hb => ?_) (fun hb => ?_)
            · exact absurd hb (nI_pos (by omega))
            · refine AF.aload_n dX9_removesJet_38 rfl ?_
              refine AF.iload_n dX9_removesJet_39 rfl ?_
              refine AF.iload dX9_removesJet_40 rfl ?_
              refine AF.iconst (nI 1) dX9_removesJet_42 (by decide) ?_
              refine AF.v1 dX9_removesJet_43 kv_X9_80 (hA) (by assumption) rfl rfl rfl (Nat.le_of_ble_eq_true rfl) (by decide) rfl ?_
              refine AF.iload_n dX9_removesJet_46 rfl ?_
              refine AF.icmp_ne 63 dX9_removesJet_47 (by decide) (fun hc1 => ?_) (fun hc1 => ?_)
              · rw [nI_eq (by omega) (by omega)] at hc1
                refine AF.aload_n dX9_removesJet_63 rfl ?_
                refine AF.iload_n dX9_removesJet_64 rfl ?_
                refine AF.iload dX9_removesJet_65 rfl ?_
                refine AF.iconst (nI 1) dX9_removesJet_67 (by decide) ?_
                refine AF.v1 dX9_removesJet_68 kv_X9_80 (hA) (by assumption) rfl rfl rfl (Nat.le_of_ble_eq_true rfl) (by decide) rfl ?_
                refine AF.iload_n dX9_removesJet_71 rfl ?_
                refine AF.icmp_le 100 dX9_removesJet_72 (by decide) (fun hc2 => ?_) (fun hc2 => ?_)
                · rw [nI_leI (by omega) (by omega)] at hc2
                  have e9 := fgL_lt hcl (show (g3 (fg σ.Fg j) c).2.1 < x by omega)
                  rw [fgM, e9] at hG
                  rw [e9]
                  refine AF.iinc dX9_removesJet_100 rfl (by decide) ?_
                  rw [iinc_m1]
                  refine AF.goto 33 dX9_removesJet_103 (by decide) ?_
                  exact ihc F1 f1 (by omega) hq1 hq2 hG ⟨h0, h1, hR⟩ hfr
                · rw [nI_leI (by omega) (by omega)] at hc2
                  have e9 := fgL_gt hcl (show x < (g3 (fg σ.Fg j) c).2.1 by omega)
                  have hG2 := hG.setJ hjm hcm (y := (g3 (fg σ.Fg j) c).2.1 - 1)
                  rw [fgM_at hjl, fgL_at hcl, e9, fgM_set] at hG2
                  have hl9 : (fgL x (fg σ.Fg j) (c + 1)).length = (fgL x (fg σ.Fg j) c).length := by rw [← e9, List.length_set]
                  rw [hl9]
                  refine AF.aload_n dX9_removesJet_75 rfl ?_
                  refine AF.getfield dX9_removesJet_76 fl_X9_7 (by assumption) rfl ?_
                  refine AF.bipush (nI 28) dX9_removesJet_79 (by decide) ?_
                  refine AF.bipush (nI 25) dX9_removesJet_81 (by decide) ?_
                  refine AF.iload_n dX9_removesJet_83 rfl ?_
                  refine AF.imul dX9_removesJet_84 ?_
                  refine AF.iadd dX9_removesJet_85 ?_
                  refine AF.iconst (nI 1) dX9_removesJet_86 (by decide) ?_
                  refine AF.iadd dX9_removesJet_87 ?_
                  refine AF.iconst (nI 3) dX9_removesJet_88 (by decide) ?_
                  refine AF.iload dX9_removesJet_89 rfl ?_
                  refine AF.imul dX9_removesJet_91 ?_
                  refine AF.iadd dX9_removesJet_92 ?_
                  refine AF.iconst (nI 1) dX9_removesJet_93 (by decide) ?_
                  refine AF.iadd dX9_removesJet_94 ?_
                  refine AF.dup2 dX9_removesJet_95 rfl rfl ?_
                  refine AF.iaload (28 + 25 * j + 1 + 3 * c + 1) dX9_removesJet_96 (by assumption) (by first | rfl | exact nI_1 _ | (simp only [nI_add, pk_mul, nI_1]; exact congrArg nI (by omega)) | simp only [nI_add, pk_mul, nI_1]) (by omega) (by decide) ?_
                  rw [hrow.2.1]
                  refine AF.iconst (nI 1) dX9_removesJet_97 (by decide) ?_
                  refine AF.isub dX9_removesJet_98 ?_
                  rw [pk_sub (by omega)]
                  refine AF.iastoreF (28 + 25 * j + 1 + 3 * c + 1) dX9_removesJet_99 h1 (by omega) (by first | rfl | exact nI_1 _ | (simp only [nI_add, pk_mul, nI_1]; exact congrArg nI (by omega)) | simp only [nI_add, pk_mul, nI_1]) (by omega) (by decide) ?_
                  intro F e9 h9 o9
                  replace h0 := (o9 (m) (by omega)).trans h0
                  replace hR := hR.kept (fun q h1 h2 => o9 q (by omega))
                  replace h1 := h9
                  replace hfr := hfr.step e9 (by omega) (by omega) o9
                  clear e9 h9 o9
                  refine AF.iinc dX9_removesJet_100 rfl (by decide) ?_
                  rw [iinc_m1]
                  refine AF.goto 33 dX9_removesJet_103 (by decide) ?_
                  exact ihc F _ (by omega) (fun q hq => by rw [upd_n (by omega)]; exact hq1 q hq) (fun q hq => by rw [upd_n (by omega)]; exact hq2 q hq) hG2 ⟨h0, h1, hR⟩ hfr
              · rw [nI_eq (by omega) (by omega)] at hc1
                have e9 := fgL_eq hcl hc1
                refine AF.aload_n dX9_removesJet_50 rfl ?_
                refine AF.iload_n dX9_removesJet_51 rfl ?_
                refine AF.iload dX9_removesJet_52 rfl ?_
                refine AF.vw dX9_removesJet_54 kv_X9_94 (X9_cuts_ok hM1 ha hG j c hjm hcm) (by assumption) rfl rfl rfl (Nat.le_of_ble_eq_true rfl) (by decide) rfl (fun E F9 q => nomatch q.1) (fun v F q => ?_)
                obtain ⟨q, f', hG2, hq, hM, q2⟩ := q
                cases q
                rw [fgM_at hjl, e9, fgM_set] at hG2
                have hl9 : (fgL x (fg σ.Fg j) c).length = (fgL x (fg σ.Fg j) (c + 1)).length - 1 := by rw [← e9, List.length_eraseIdx_of_lt (by rw [fgL_len hc]; omega)]
                have hl8 := fgL_len (x := x) hc
                refine AF.inc1 dX9_removesJet_57 rfl (by decide) ?_
                rw [show sumN (rmC x σ.Fg) j + ((fg σ.Fg j).length - (fgL x (fg σ.Fg j) (c + 1)).length) + 1 = sumN (rmC x σ.Fg) j + ((fg σ.Fg j).length - (fgL x (fg σ.Fg j) c).length) by omega]
                refine AF.goto 100 dX9_removesJet_60 (by decide) ?_
                refine AF.iinc dX9_removesJet_100 rfl (by decide) ?_
                rw [iinc_m1]
                refine AF.goto 33 dX9_removesJet_103 (by decide) ?_
                exact ihc F f' (by omega) (fun q z => (hq q (by omega)).trans (hq1 q z)) (fun q z => (hq q (by omega)).trans (hq2 q z)) hG2 hM (hfr.trans q2 (Nat.le_refl _) (Nat.le_refl _))
        obtain ⟨h0, h1, hR⟩ := hM
        refine AF.iload_n dX9_removesJet_14 rfl ?_
        refine AF.aload_n dX9_removesJet_15 rfl ?_
        refine AF.getfield dX9_removesJet_16 fl_X9_7 (by assumption) rfl ?_
        refine AF.iconst (nI 1) dX9_removesJet_19 (by decide) ?_
        refine AF.iaload (_) dX9_removesJet_20 (by assumption) rfl (by omega) (by decide) ?_
        rw [hq1 1 (by omega), hS.1.2.1]
        refine AF.icmp_ge 112 dX9_removesJet_21 (by decide) (fun hb => ?_) (fun hb => ?_)
        · rw [nI_leI (by omega) (by omega)] at hb
          omega
        · refine AF.aload_n dX9_removesJet_24 rfl ?_
          refine AF.iload_n dX9_removesJet_25 rfl ?_
          refine AF.v1 dX9_removesJet_26 kv_X9_77 (hV) (by assumption) rfl rfl rfl (Nat.le_of_ble_eq_true rfl) (by decide) rfl ?_
          refine AF.iconst (1) dX9_removesJet_29 (by decide) ?_
          refine AF.isub dX9_removesJet_30 ?_
          refine AF.istore dX9_removesJet_31 (by decide) ?_
          have h9 := il (fg σ.Fg j).length F1 f1 (Nat.le_refl _) hq1 hq2 (by rw [fgM_all hjl]; exact hG) hM1 hfr
          rw [fgL_all, Nat.sub_self, Nat.add_zero] at h9
          exact h9
    refine AF.iconst (0) dX9_removesJet_10 (by decide) ?_
    refine AF.istore_n dX9_removesJet_11 (by decide) ?_
    refine AF.iconst (0) dX9_removesJet_12 (by decide) ?_
    refine AF.istore_n dX9_removesJet_13 (by decide) ?_
    exact ol σ.Fg.length 0 F f none (by omega) (fun _ _ => rfl) (fun _ _ => rfl) hS.2.2.1 hM0 hfr
  · have c1 := bI_z c1
    rw [if_neg (by rw [c1]; decide)]
    refine AF.iconst (1) dX9_removesJet_8 (by decide) ?_
    exact AF.ireturn dX9_removesJet_9 rfl (MD.no (by decide) hM0 hfr)
set_option maxRecDepth 100000 in
set_option maxHeartbeats 4000000 in
theorem X9_removesFigure_ok (hM : MA G F m g f A) (ha : gN G ≤ m) (hS : SR σ f) (hI : SI σ B) (x : Int32) : AC G mX9_removesFigure 3 0 0 [.ref m, .int x] F (MD G m (aRmF σ x) g f A (if pDrF σ x = 4 then 2 else pDrF σ x) (nI (fg σ.Fg (cl x)).length) F) := by
  have hT := X9_isFigure_ok hM hS x
  have h6 := hS.2.2.2.1
  have h5 := hS.2.2.1.1
  have hM0 := hM
  obtain ⟨h0, h1, hR⟩ := hM
  refine AC.of [some (.ref m), some (.int x), none, none, none] rfl (by decide) (Nat.le_of_ble_eq_true rfl) rfl ?_
  have hfr : Fr m (m + 9) F F := Fr.rf
  refine AF.aload_n dX9_removesFigure_0 rfl ?_
  refine AF.iload_n dX9_removesFigure_1 rfl ?_
  refine AF.v1 dX9_removesFigure_2 kv_X9_101 (hT) (by assumption) rfl rfl rfl (Nat.le_of_ble_eq_true rfl) (by decide) rfl ?_
  refine AF.if_ne 10 dX9_removesFigure_5 (by decide) (fun c1 => ?_) (fun c1 => ?_)
  · have c1 := bI_n c1
    have e1 : ¬ hasB σ.Fg.length x = false := by rw [c1]; decide
    have fl : ∀ k j, j + k = σ.E.length → (∀ i, i < j → decide (nI (en σ.E i).1 = x) = false) → AF G mX9_removesFigure 3 0 0 (MD G m (aRmF σ x) g f A (if pDrF σ x = 4 then 2 else pDrF σ x) (nI (fg σ.Fg (cl x)).length) F) F 12 [some (.ref m), some (.int x), some (.int (nI j)), none, none] [] := by
      intro k
      induction k with
      | zero =>
        intro j hj hb9
        refine AF.iload_n dX9_removesFigure_12 rfl ?_
        refine AF.aload_n dX9_removesFigure_13 rfl ?_
        refine AF.getfield dX9_removesFigure_14 fl_X9_7 (by assumption) rfl ?_
        refine AF.iconst (nI 2) dX9_removesFigure_17 (by decide) ?_
        refine AF.iaload (_) dX9_removesFigure_18 (by assumption) rfl (by omega) (by decide) ?_
        rw [hS.1.2.2.1]
        refine AF.icmp_ge 46 dX9_removesFigure_19 (by decide) (fun hb => ?_) (fun hb => ?_)
        · have hno : (fnd (fun e => decide (nI (en σ.E e).1 = x)) σ.E.length).isSome = false := by rw [fnd_none (fun i hi => hb9 i (by omega))]; rfl
          rw [show (if pDrF σ x = 4 then 2 else pDrF σ x) = 0 from by rw [show pDrF σ x = 0 from by rw [pDrF, if_neg e1, if_neg (by rw [hno]; decide)]]; rfl]
          obtain ⟨x, hx, rfl⟩ := hasB_nI (by omega) c1
          rw [cl_nI (by omega)]
          have e8 : aRmF σ (nI x) = (σ.J, σ.cap, σ.w, σ.Fg.eraseIdx x, σ.E.map (dcF x), σ.bt, σ.pum, σ.sht) := by unfold aRmF; rw [cl_nI (by omega)]
          rw [e8]
          have hlen : (σ.Fg.eraseIdx x).length = σ.Fg.length - 1 := List.length_eraseIdx_of_lt hx
          generalize hn0 : σ.Fg.length - 1 = n at hlen
          have hn1 : σ.Fg.length = n + 1 := by omega
          have hV := X9_steps_ok hM0 x (by omega)
          rw [(hS.2.2.1.2 x hx).2.1] at hV
          generalize hN : (fg σ.Fg x).length = N at hV
          have el : ∀ k j F1 f1, j + k = σ.E.length → (∀ q, q < 28 → ¬ q = 1 → f1 q = f q) → f1 1 = nI n → SG (σ.Fg.eraseIdx x) f1 → (∀ i, i < j → f1 (153 + 2 * i) = nI (dcF x (en σ.E i)).1) → (∀ i, j ≤ i → i < σ.E.length → f1 (153 + 2 * i) = nI (en σ.E i).1) → (∀ i, i < σ.E.length → f1 (153 + 2 * i + 1) = nI (en σ.E i).2) → MA G F1 m g f1 A → Fr m (m + 9) F F1 → AF G mX9_removesFigure 3 0 0 (MD G m (σ.J, σ.cap, σ.w, σ.Fg.eraseIdx x, σ.E.map (dcF x), σ.bt, σ.pum, σ.sht) g f A 0 (nI N) F) F1 147 [some (.ref m), some (.int (nI x)), some (.int (nI N)), some (.int (nI n)), some (.int (nI j))] [] := by
            intro k
            induction k with
            | zero =>
              intro j F1 f1 hj hq1 hq2 hG d1 d2 d3 hM hfr
              have hM1 := hM
              obtain ⟨h0, h1, hR⟩ := hM
              refine AF.iload dX9_removesFigure_147 rfl ?_
              refine AF.aload_n dX9_removesFigure_149 rfl ?_
              refine AF.getfield dX9_removesFigure_150 fl_X9_7 (by assumption) rfl ?_
              refine AF.iconst (nI 2) dX9_removesFigure_153 (by decide) ?_
              refine AF.iaload (_) dX9_removesFigure_154 (by assumption) rfl (by omega) (by decide) ?_
              rw [hq1 2 (by omega) (by omega), hS.1.2.2.1]
              refine AF.icmp_ge 202 dX9_removesFigure_155 (by decide) (fun hb => ?_) (fun hb => ?_)
              · refine AF.aload_n dX9_removesFigure_202 rfl ?_
                refine AF.iload_n dX9_removesFigure_203 rfl ?_
                refine AF.vw dX9_removesFigure_204 kv_X9_87 (X9_done_ok hM1 ha (nI N)) (by assumption) rfl rfl rfl (Nat.le_of_ble_eq_true rfl) (by decide) rfl (fun E F9 q => nomatch q.1) (fun v F q => ?_)
                obtain ⟨q, hM, q2⟩ := q
                cases q
                obtain ⟨⟨a0, a1, a2, a3, a4, a5, a6, a7⟩, hJ, -, hE⟩ := hS
                refine AF.ireturn dX9_removesFigure_207 rfl (MD.yes ⟨⟨?_, ?_, ?_, ?_, ?_, ?_, ?_, ?_⟩, hJ.kept (fun q q1 q2 => hq1 q (by omega) (by omega)), hG, hE.dc (fun i hi => d1 i (by omega)) d3⟩ hM (hfr.trans q2 (Nat.le_refl _) (Nat.le_refl _)))
                · rw [hq1 _ (by omega) (by omega)]; exact a0
                · rw [hq2]; show _ = nI (σ.Fg.eraseIdx x).length; rw [hlen]
                · rw [hq1 _ (by omega) (by omega), a2]; show _ = nI (σ.E.map (dcF x)).length; rw [List.length_map]
                · rw [hq1 _ (by omega) (by omega)]; exact a3
                · rw [hq1 _ (by omega) (by omega)]; exact a4
                · rw [hq1 _ (by omega) (by omega)]; exact a5
                · rw [hq1 _ (by omega) (by omega)]; exact a6
                · rw [hq1 _ (by omega) (by omega)]; exact a7
              · exact absurd (by rw [nI_leI (by omega) (by omega)]; omega) hb
            | succ k ih =>
              intro j F1 f1 hj hq1 hq2 hG d1 d2 d3 hM hfr
              obtain ⟨h0, h1, hR⟩ := hM
              have hjE : j < σ.E.length := by omega
              have hen := (hI.2.2.2.1 j hjE).1
              refine AF.iload dX9_removesFigure_147 rfl ?_
              refine AF.aload_n dX9_removesFigure_149 rfl ?_
              refine AF.getfield dX9_removesFigure_150 fl_X9_7 (by assumption) rfl ?_
              refine AF.iconst (nI 2) dX9_removesFigure_153 (by decide) ?_
              refine AF.iaload (_) dX9_removesFigure_154 (by assumption) rfl (by omega) (by decide) ?_
              rw [hq1 2 (by omega) (by omega), hS.1.2.2.1]
              refine AF.icmp_ge 202 dX9_removesFigure_155 (by decide) (fun hb => ?_) (fun hb => ?_)
              · rw [nI_leI (by omega) (by omega)] at hb
                omega
              · refine AF.aload_n dX9_removesFigure_158 rfl ?_
                refine AF.getfield dX9_removesFigure_159 fl_X9_7 (by assumption) rfl ?_
                refine AF.sipush (nI 153) dX9_removesFigure_162 (by decide) ?_
                refine AF.iconst (nI 2) dX9_removesFigure_165 (by decide) ?_
                refine AF.iload dX9_removesFigure_166 rfl ?_
                refine AF.imul dX9_removesFigure_168 ?_
                rw [pk_mul]
                refine AF.iadd dX9_removesFigure_169 ?_
                rw [nI_add]
                refine AF.dup2 dX9_removesFigure_170 rfl rfl ?_
                refine AF.iaload (153 + 2 * j) dX9_removesFigure_171 (by assumption) (by first | rfl | exact nI_1 _ | (simp only [nI_add, pk_mul, nI_1]; exact congrArg nI (by omega)) | simp only [nI_add, pk_mul, nI_1]) (by omega) (by decide) ?_
                rw [d2 j (Nat.le_refl _) hjE]
                refine AF.aload_n dX9_removesFigure_172 rfl ?_
                refine AF.getfield dX9_removesFigure_173 fl_X9_7 (by assumption) rfl ?_
                refine AF.sipush (nI 153) dX9_removesFigure_176 (by decide) ?_
                refine AF.iconst (nI 2) dX9_removesFigure_179 (by decide) ?_
                refine AF.iload dX9_removesFigure_180 rfl ?_
                refine AF.imul dX9_removesFigure_182 ?_
                rw [pk_mul]
                refine AF.iadd dX9_removesFigure_183 ?_
                rw [nI_add]
                refine AF.iaload (153 + 2 * j) dX9_removesFigure_184 (by assumption) (by first | rfl | exact nI_1 _ | (simp only [nI_add, pk_mul, nI_1]; exact congrArg nI (by omega)) | simp only [nI_add, pk_mul, nI_1]) (by omega) (by decide) ?_
                rw [d2 j (Nat.le_refl _) hjE]
                refine AF.iload_n dX9_removesFigure_185 rfl ?_
                refine AF.icmp_le 193 dX9_removesFigure_186 (by decide) (fun hc => ?_) (fun hc => ?_)
                · rw [nI_leI (by omega) (by omega)] at hc
                  refine AF.iconst (nI 0) dX9_removesFigure_193 (by decide) ?_
                  refine AF.isub dX9_removesFigure_194 ?_
                  rw [pk_sub (Nat.zero_le _)]
                  refine AF.iastoreF (153 + 2 * j) dX9_removesFigure_195 h1 (by omega) (by first | rfl | exact nI_1 _ | (simp only [nI_add, pk_mul, nI_1]; exact congrArg nI (by omega)) | simp only [nI_add, pk_mul, nI_1]) (by omega) (by decide) ?_
                  intro F e9 h9 o9
                  replace h0 := (o9 (m) (by omega)).trans h0
                  replace hR := hR.kept (fun q h1 h2 => o9 q (by omega))
                  replace h1 := h9
                  replace hfr := hfr.step e9 (by omega) (by omega) o9
                  clear e9 h9 o9
                  refine AF.inc1 dX9_removesFigure_196 rfl (by decide) ?_
                  refine AF.goto 147 dX9_removesFigure_199 (by decide) ?_
                  refine ih (j + 1) F _ (by omega) (fun q z1 z2 => by rw [upd_n (by omega)]; exact hq1 q z1 z2) (by rw [upd_n (by omega)]; exact hq2) (hG.kept (fun q z1 z2 => upd_n (by omega))) (fun i hi => ?_) (fun i z1 z2 => by rw [upd_n (by omega)]; exact d2 i (by omega) z2) (fun i hi => by rw [upd_n (by omega)]; exact d3 i hi) ⟨h0, h1, hR⟩ hfr
                  by_cases e : i = j
                  · subst e; rw [upd_s, dcF, if_neg (by omega)]; rfl
                  · rw [upd_n (by omega)]; exact d1 i (by omega)
                · rw [nI_leI (by omega) (by omega)] at hc
                  refine AF.iconst (nI 1) dX9_removesFigure_189 (by decide) ?_
                  refine AF.goto 194 dX9_removesFigure_190 (by decide) ?_
                  refine AF.isub dX9_removesFigure_194 ?_
                  rw [pk_sub (by omega)]
                  refine AF.iastoreF (153 + 2 * j) dX9_removesFigure_195 h1 (by omega) (by first | rfl | exact nI_1 _ | (simp only [nI_add, pk_mul, nI_1]; exact congrArg nI (by omega)) | simp only [nI_add, pk_mul, nI_1]) (by omega) (by decide) ?_
                  intro F e9 h9 o9
                  replace h0 := (o9 (m) (by omega)).trans h0
                  replace hR := hR.kept (fun q h1 h2 => o9 q (by omega))
                  replace h1 := h9
                  replace hfr := hfr.step e9 (by omega) (by omega) o9
                  clear e9 h9 o9
                  refine AF.inc1 dX9_removesFigure_196 rfl (by decide) ?_
                  refine AF.goto 147 dX9_removesFigure_199 (by decide) ?_
                  refine ih (j + 1) F _ (by omega) (fun q z1 z2 => by rw [upd_n (by omega)]; exact hq1 q z1 z2) (by rw [upd_n (by omega)]; exact hq2) (hG.kept (fun q z1 z2 => upd_n (by omega))) (fun i hi => ?_) (fun i z1 z2 => by rw [upd_n (by omega)]; exact d2 i (by omega) z2) (fun i hi => by rw [upd_n (by omega)]; exact d3 i hi) ⟨h0, h1, hR⟩ hfr
                  by_cases e : i = j
                  · subst e; rw [upd_s, dcF, if_pos (by omega)]
                  · rw [upd_n (by omega)]; exact d1 i (by omega)
          have zl : ∀ k j F1, j + k = 25 → MA G F1 m g (zfl (shf f (28 + 25 * x) (28 + 25 * n) 25) (28 + 25 * n) (28 + 25 * n + j)) A → Fr m (m + 9) F F1 → AF G mX9_removesFigure 3 0 0 (MD G m (σ.J, σ.cap, σ.w, σ.Fg.eraseIdx x, σ.E.map (dcF x), σ.bt, σ.pum, σ.sht) g f A 0 (nI N) F) F1 108 [some (.ref m), some (.int (nI x)), some (.int (nI N)), some (.int (nI n)), some (.int (nI j))] [] := by
            intro k
            induction k with
            | zero =>
              intro j F1 hj hM hfr
              obtain rfl : j = 25 := by omega
              obtain ⟨h0, h1, hR⟩ := hM
              refine AF.iload dX9_removesFigure_108 rfl ?_
              refine AF.bipush (nI 25) dX9_removesFigure_110 (by decide) ?_
              refine AF.icmp_ge 137 dX9_removesFigure_112 (by decide) (fun hb => ?_) (fun hb => ?_)
              · refine AF.aload_n dX9_removesFigure_137 rfl ?_
                refine AF.getfield dX9_removesFigure_138 fl_X9_7 (by assumption) rfl ?_
                refine AF.iconst (nI 1) dX9_removesFigure_141 (by decide) ?_
                refine AF.iload_n dX9_removesFigure_142 rfl ?_
                refine AF.iastoreF (1) dX9_removesFigure_143 h1 (by omega) (by first | rfl | exact nI_1 _ | (simp only [nI_add, pk_mul, nI_1]; exact congrArg nI (by omega)) | simp only [nI_add, pk_mul, nI_1]) (by omega) (by decide) ?_
                intro F e9 h9 o9
                replace h0 := (o9 (m) (by omega)).trans h0
                replace hR := hR.kept (fun q h1 h2 => o9 q (by omega))
                replace h1 := h9
                replace hfr := hfr.step e9 (by omega) (by omega) o9
                clear e9 h9 o9
                refine AF.iconst (nI 0) dX9_removesFigure_144 (by decide) ?_
                refine AF.istore dX9_removesFigure_145 (by decide) ?_
                have hk : ∀ q, ¬ q = 1 → (q < 28 + 25 * x ∨ 28 + 25 * n + 25 ≤ q) → upd (zfl (shf f (28 + 25 * x) (28 + 25 * n) 25) (28 + 25 * n) (28 + 25 * n + 25)) 1 (nI n) q = f q := fun q q1 q2 => by
                  rw [upd_n q1, zfl_o (by omega), shf_o (by omega)]
                refine el σ.E.length 0 F _ (by omega) (fun q q1 q2 => hk q q2 (by omega)) upd_s (hS.2.2.1.era hx (fun q q1 q2 => hk q (by omega) (by omega)) (fun q q1 q2 => by rw [upd_n (by omega), zfl_o (by omega), shf_i (by omega) (by omega)])) (fun i hi => absurd hi (Nat.not_lt_zero _)) (fun i q1 q2 => ?_) (fun i hi => ?_) ⟨h0, h1, hR⟩ hfr
                · rw [hk _ (by omega) (by omega)]; exact (hS.2.2.2.2 i q2).1
                · rw [hk _ (by omega) (by omega)]; exact (hS.2.2.2.2 i hi).2
              · exact absurd (by rw [nI_leI (by omega) (by omega)]; omega) hb
            | succ k ih =>
              intro j F1 hj hM hfr
              obtain ⟨h0, h1, hR⟩ := hM
              refine AF.iload dX9_removesFigure_108 rfl ?_
              refine AF.bipush (nI 25) dX9_removesFigure_110 (by decide) ?_
              refine AF.icmp_ge 137 dX9_removesFigure_112 (by decide) (fun hb => ?_) (fun hb => ?_)
              · rw [nI_leI (by omega) (by omega)] at hb
                omega
              · refine AF.aload_n dX9_removesFigure_115 rfl ?_
                refine AF.getfield dX9_removesFigure_116 fl_X9_7 (by assumption) rfl ?_
                refine AF.bipush (nI 28) dX9_removesFigure_119 (by decide) ?_
                refine AF.bipush (nI 25) dX9_removesFigure_121 (by decide) ?_
                refine AF.iload_n dX9_removesFigure_123 rfl ?_
                refine AF.imul dX9_removesFigure_124 ?_
                refine AF.iadd dX9_removesFigure_125 ?_
                refine AF.iload dX9_removesFigure_126 rfl ?_
                refine AF.iadd dX9_removesFigure_128 ?_
                refine AF.iconst (nI 0) dX9_removesFigure_129 (by decide) ?_
                refine AF.iastoreF (28 + 25 * n + j) dX9_removesFigure_130 h1 (by omega) (by first | rfl | exact nI_1 _ | (simp only [nI_add, pk_mul, nI_1]; exact congrArg nI (by omega)) | simp only [nI_add, pk_mul, nI_1]) (by omega) (by decide) ?_
                intro F e9 h9 o9
                replace h0 := (o9 (m) (by omega)).trans h0
                replace hR := hR.kept (fun q h1 h2 => o9 q (by omega))
                replace h1 := h9
                replace hfr := hfr.step e9 (by omega) (by omega) o9
                clear e9 h9 o9
                rw [show nI 0 = (0 : Int32) from rfl, zfl_step (by omega)] at h1
                refine AF.inc1 dX9_removesFigure_131 rfl (by decide) ?_
                refine AF.goto 108 dX9_removesFigure_134 (by decide) ?_
                exact ih (j + 1) F (by omega) ⟨h0, h1, hR⟩ hfr
          have sl : ∀ k j F1, j + k = 25 * n → 25 * x ≤ j → MA G F1 m g (shf f (28 + 25 * x) (28 + j) 25) A → Fr m (m + 9) F F1 → AF G mX9_removesFigure 3 0 0 (MD G m (σ.J, σ.cap, σ.w, σ.Fg.eraseIdx x, σ.E.map (dcF x), σ.bt, σ.pum, σ.sht) g f A 0 (nI N) F) F1 67 [some (.ref m), some (.int (nI x)), some (.int (nI N)), some (.int (nI n)), some (.int (nI j))] [] := by
            intro k
            induction k with
            | zero =>
              intro j F1 hj hxj hM hfr
              obtain rfl : j = 25 * n := by omega
              refine AF.iload dX9_removesFigure_67 rfl ?_
              refine AF.bipush (nI 25) dX9_removesFigure_69 (by decide) ?_
              refine AF.iload_n dX9_removesFigure_71 rfl ?_
              refine AF.imul dX9_removesFigure_72 ?_
              rw [pk_mul]
              refine AF.icmp_ge 105 dX9_removesFigure_73 (by decide) (fun hb => ?_) (fun hb => ?_)
              · refine AF.iconst (nI 0) dX9_removesFigure_105 (by decide) ?_
                refine AF.istore dX9_removesFigure_106 (by decide) ?_
                exact zl 25 0 F1 (by omega) (by rw [show 28 + 25 * n + 0 = 28 + 25 * n from rfl, zfl_0]; exact hM) hfr
              · exact absurd (Int32.le_refl _) hb
            | succ k ih =>
              intro j F1 hj hxj hM hfr
              obtain ⟨h0, h1, hR⟩ := hM
              refine AF.iload dX9_removesFigure_67 rfl ?_
              refine AF.bipush (nI 25) dX9_removesFigure_69 (by decide) ?_
              refine AF.iload_n dX9_removesFigure_71 rfl ?_
              refine AF.imul dX9_removesFigure_72 ?_
              rw [pk_mul]
              refine AF.icmp_ge 105 dX9_removesFigure_73 (by decide) (fun hb => ?_) (fun hb => ?_)
              · rw [nI_leI (by omega) (by omega)] at hb
                omega
              · refine AF.aload_n dX9_removesFigure_76 rfl ?_
                refine AF.getfield dX9_removesFigure_77 fl_X9_7 (by assumption) rfl ?_
                refine AF.bipush (nI 28) dX9_removesFigure_80 (by decide) ?_
                refine AF.iload dX9_removesFigure_82 rfl ?_
                refine AF.iadd dX9_removesFigure_84 ?_
                refine AF.aload_n dX9_removesFigure_85 rfl ?_
                refine AF.getfield dX9_removesFigure_86 fl_X9_7 (by assumption) rfl ?_
                refine AF.bipush (nI 28) dX9_removesFigure_89 (by decide) ?_
                refine AF.iload dX9_removesFigure_91 rfl ?_
                refine AF.iadd dX9_removesFigure_93 ?_
                refine AF.bipush (nI 25) dX9_removesFigure_94 (by decide) ?_
                refine AF.iadd dX9_removesFigure_96 ?_
                refine AF.iaload (28 + j + 25) dX9_removesFigure_97 (by assumption) (by first | rfl | exact nI_1 _ | (simp only [nI_add, pk_mul, nI_1]; exact congrArg nI (by omega)) | simp only [nI_add, pk_mul, nI_1]) (by omega) (by decide) ?_
                refine AF.iastoreF (28 + j) dX9_removesFigure_98 h1 (by omega) (by first | rfl | exact nI_1 _ | (simp only [nI_add, pk_mul, nI_1]; exact congrArg nI (by omega)) | simp only [nI_add, pk_mul, nI_1]) (by omega) (by decide) ?_
                intro F e9 h9 o9
                replace h0 := (o9 (m) (by omega)).trans h0
                replace hR := hR.kept (fun q h1 h2 => o9 q (by omega))
                replace h1 := h9
                replace hfr := hfr.step e9 (by omega) (by omega) o9
                clear e9 h9 o9
                rw [shf_step (by omega)] at h1
                refine AF.inc1 dX9_removesFigure_99 rfl (by decide) ?_
                refine AF.goto 67 dX9_removesFigure_102 (by decide) ?_
                exact ih (j + 1) F (by omega) (by omega) ⟨h0, h1, hR⟩ hfr
          refine AF.aload_n dX9_removesFigure_46 rfl ?_
          refine AF.iload_n dX9_removesFigure_47 rfl ?_
          refine AF.v1 dX9_removesFigure_48 kv_X9_77 (hV) (by assumption) rfl rfl rfl (Nat.le_of_ble_eq_true rfl) (by decide) rfl ?_
          refine AF.istore_n dX9_removesFigure_51 (by decide) ?_
          refine AF.aload_n dX9_removesFigure_52 rfl ?_
          refine AF.getfield dX9_removesFigure_53 fl_X9_7 (by assumption) rfl ?_
          refine AF.iconst (nI 1) dX9_removesFigure_56 (by decide) ?_
          refine AF.iaload (_) dX9_removesFigure_57 (by assumption) rfl (by omega) (by decide) ?_
          rw [hS.1.2.1, hn1]
          refine AF.iconst (nI 1) dX9_removesFigure_58 (by decide) ?_
          refine AF.isub dX9_removesFigure_59 ?_
          rw [show nI (n + 1) - nI 1 = nI n from nI_pred n]
          refine AF.istore_n dX9_removesFigure_60 (by decide) ?_
          refine AF.bipush (nI 25) dX9_removesFigure_61 (by decide) ?_
          refine AF.iload_n dX9_removesFigure_63 rfl ?_
          refine AF.imul dX9_removesFigure_64 ?_
          rw [pk_mul]
          refine AF.istore dX9_removesFigure_65 (by decide) ?_
          exact sl (25 * n - 25 * x) (25 * x) F (by omega) (Nat.le_refl _) (by rw [shf_0]; exact hM0) hfr
        · exact absurd (by rw [nI_leI (by omega) (by omega)]; omega) hb
      | succ k ih =>
        intro j hj hb9
        refine AF.iload_n dX9_removesFigure_12 rfl ?_
        refine AF.aload_n dX9_removesFigure_13 rfl ?_
        refine AF.getfield dX9_removesFigure_14 fl_X9_7 (by assumption) rfl ?_
        refine AF.iconst (nI 2) dX9_removesFigure_17 (by decide) ?_
        refine AF.iaload (_) dX9_removesFigure_18 (by assumption) rfl (by omega) (by decide) ?_
        rw [hS.1.2.2.1]
        refine AF.icmp_ge 46 dX9_removesFigure_19 (by decide) (fun hb => ?_) (fun hb => ?_)
        · rw [nI_leI (by omega) (by omega)] at hb
          omega
        · refine AF.aload_n dX9_removesFigure_22 rfl ?_
          refine AF.getfield dX9_removesFigure_23 fl_X9_7 (by assumption) rfl ?_
          refine AF.sipush (nI 153) dX9_removesFigure_26 (by decide) ?_
          refine AF.iconst (nI 2) dX9_removesFigure_29 (by decide) ?_
          refine AF.iload_n dX9_removesFigure_30 rfl ?_
          refine AF.imul dX9_removesFigure_31 ?_
          rw [pk_mul]
          refine AF.iadd dX9_removesFigure_32 ?_
          rw [nI_add]
          refine AF.iaload (153 + 2 * j) dX9_removesFigure_33 (by assumption) (by first | rfl | exact nI_1 _ | (simp only [nI_add, pk_mul, nI_1]; exact congrArg nI (by omega)) | simp only [nI_add, pk_mul, nI_1]) (by omega) (by decide) ?_
          rw [(hS.2.2.2.2 j (by omega)).1]
          refine AF.iload_n dX9_removesFigure_34 rfl ?_
          refine AF.icmp_ne 40 dX9_removesFigure_35 (by decide) (fun hc => ?_) (fun hc => ?_)
          · refine AF.inc1 dX9_removesFigure_40 rfl (by decide) ?_
            refine AF.goto 12 dX9_removesFigure_43 (by decide) ?_
            refine ih (j + 1) (by omega) (fun i hi => ?_)
            by_cases e : i = j
            · rw [e]; exact decide_eq_false hc
            · exact hb9 i (by omega)
          · rw [show (if pDrF σ x = 4 then 2 else pDrF σ x) = 2 from by rw [show pDrF σ x = 4 from by rw [pDrF, if_neg e1, fnd_some (decide_eq_true hc) (by omega) hb9]; rfl]; rfl]
            refine AF.iconst (2) dX9_removesFigure_38 (by decide) ?_
            exact AF.ireturn dX9_removesFigure_39 rfl (MD.no (by decide) hM0 hfr)
    refine AF.iconst (nI 0) dX9_removesFigure_10 (by decide) ?_
    refine AF.istore_n dX9_removesFigure_11 (by decide) ?_
    exact fl σ.E.length 0 (by omega) (fun i hi => by omega)
  · have c1 := bI_z c1
    rw [show (if pDrF σ x = 4 then 2 else pDrF σ x) = 1 from by rw [show pDrF σ x = 1 from by rw [pDrF, if_pos c1]]; rfl]
    refine AF.iconst (1) dX9_removesFigure_8 (by decide) ?_
    exact AF.ireturn dX9_removesFigure_9 rfl (MD.no (by decide) hM0 hfr)
end

