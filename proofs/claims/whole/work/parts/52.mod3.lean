/-! The reference: its changes of the figures and the queue. -/
/-- moved down by d from lo up to hi; zeros; copied up to n -/
def shf (f : Nat → Int32) (lo hi d : Nat) : Nat → Int32 := fun q => if lo ≤ q ∧ q < hi then f (q + d) else f q
def zfl (f : Nat → Int32) (lo hi : Nat) : Nat → Int32 := fun q => if lo ≤ q ∧ q < hi then 0 else f q
def cpU (f g : Nat → Int32) (n : Nat) : Nat → Int32 := fun q => if q < n then f q else g q
theorem shf_0 {f : Nat → Int32} {lo d : Nat} : shf f lo lo d = f := funext fun q => if_neg (by omega)
theorem shf_i {f : Nat → Int32} {lo hi d q : Nat} (h1 : lo ≤ q) (h2 : q < hi) : shf f lo hi d q = f (q + d) := if_pos ⟨h1, h2⟩
theorem shf_o {f : Nat → Int32} {lo hi d q : Nat} (h : q < lo ∨ hi ≤ q) : shf f lo hi d q = f q := if_neg (by omega)
theorem shf_step {f : Nat → Int32} {lo p d : Nat} (h : lo ≤ p) : upd (shf f lo p d) p (shf f lo p d (p + d)) = shf f lo (p + 1) d := funext fun q => by
  by_cases e : q = p
  · rw [e, upd_s, shf_o (by omega), shf_i (by omega) (by omega)]
  · rw [upd_n e]
    by_cases q1 : lo ≤ q ∧ q < p
    · rw [shf_i q1.1 q1.2, shf_i q1.1 (by omega)]
    · rw [shf_o (by omega), shf_o (by omega)]
theorem zfl_0 {f : Nat → Int32} {lo : Nat} : zfl f lo lo = f := funext fun q => if_neg (by omega)
theorem zfl_i {f : Nat → Int32} {lo hi q : Nat} (h1 : lo ≤ q) (h2 : q < hi) : zfl f lo hi q = 0 := if_pos ⟨h1, h2⟩
theorem zfl_o {f : Nat → Int32} {lo hi q : Nat} (h : q < lo ∨ hi ≤ q) : zfl f lo hi q = f q := if_neg (by omega)
theorem zfl_step {f : Nat → Int32} {lo p : Nat} (h : lo ≤ p) : upd (zfl f lo p) p 0 = zfl f lo (p + 1) := funext fun q => by
  by_cases e : q = p
  · rw [e, upd_s, zfl_i (by omega) (by omega)]
  · rw [upd_n e]
    by_cases q1 : lo ≤ q ∧ q < p
    · rw [zfl_i q1.1 q1.2, zfl_i q1.1 (by omega)]
    · rw [zfl_o (by omega), zfl_o (by omega)]
theorem cpU_0 {f g : Nat → Int32} : cpU f g 0 = g := funext fun q => if_neg (by omega)
theorem cpU_i {f g : Nat → Int32} {n q : Nat} (h : q < n) : cpU f g n q = f q := if_pos h
theorem cpU_o {f g : Nat → Int32} {n q : Nat} (h : n ≤ q) : cpU f g n q = g q := if_neg (by omega)
theorem cpU_step {f g : Nat → Int32} {p : Nat} : upd (cpU f g p) p (f p) = cpU f g (p + 1) := funext fun q => by
  by_cases e : q = p
  · rw [e, upd_s, cpU_i (by omega)]
  · rw [upd_n e]
    by_cases q1 : q < p
    · rw [cpU_i q1, cpU_i (by omega)]
    · rw [cpU_o (by omega), cpU_o (by omega)]
theorem SG.row {Fg : List (List Sp)} {f f' : Nat → Int32} {i : Nat} {L : List Sp} (h : SG Fg f) (hi : i < Fg.length) (h8 : L.length ≤ 8) (hs : f' (28 + 25 * i) = nI L.length) (hrow : ∀ k, k < L.length → f' (28 + 25 * i + 1 + 3 * k) = nI (g3 L k).1 ∧ f' (28 + 25 * i + 1 + 3 * k + 1) = nI (g3 L k).2.1 ∧ f' (28 + 25 * i + 1 + 3 * k + 2) = nI (g3 L k).2.2) (ho : ∀ q, 28 ≤ q → q < 153 → (q < 28 + 25 * i ∨ 28 + 25 * i + 25 ≤ q) → f' q = f q) : SG (Fg.set i L) f' := by
  refine ⟨by rw [List.length_set]; exact h.1, fun j hj => ?_⟩
  rw [List.length_set] at hj
  have h5 := h.1
  rw [fg, gd_set]
  by_cases e : j = i
  · subst e
    rw [if_pos ⟨rfl, hi⟩]
    exact ⟨h8, hs, hrow⟩
  · rw [if_neg (fun q => e q.1)]
    obtain ⟨q8, q9, q10⟩ := h.2 j hj
    refine ⟨q8, by rw [ho _ (by omega) (by omega) (by omega)]; exact q9, fun k hk => ?_⟩
    have hk : k < (fg Fg j).length := hk
    rw [ho _ (by omega) (by omega) (by omega), ho _ (by omega) (by omega) (by omega), ho _ (by omega) (by omega) (by omega)]
    exact q10 k hk
theorem SR.figs {σ : Sg} {Fg' : List (List Sp)} {f f' : Nat → Int32} (h : SR σ f) (hG : SG Fg' f') (hl : Fg'.length = σ.Fg.length) (e : ∀ q, (q < 28 ∨ 153 ≤ q) → f' q = f q) : SR (σ.J, σ.cap, σ.w, Fg', σ.E, σ.bt, σ.pum, σ.sht) f' := by
  obtain ⟨⟨a0, a1, a2, a3, a4, a5, a6, a7⟩, hJ, -, hE⟩ := h
  refine ⟨⟨?_, ?_, ?_, ?_, ?_, ?_, ?_, ?_⟩, hJ.kept (fun q h1 h2 => e q (by omega)), hG, hE.kept (fun q h1 h2 => e q (by omega))⟩
  · rw [e _ (by omega)]; exact a0
  · rw [e _ (by omega), a1]; show _ = nI Fg'.length; rw [hl]
  · rw [e _ (by omega)]; exact a2
  · rw [e _ (by omega)]; exact a3
  · rw [e _ (by omega)]; exact a4
  · rw [e _ (by omega)]; exact a5
  · rw [e _ (by omega)]; exact a6
  · rw [e _ (by omega)]; exact a7
/-- an answer, the figures new -/
def MG (G : GA) (m : Nat) (Fg' : List (List Sp)) (g f : Nat → Int32) (A : Nat → Nat → Int32) (v : Option Value) (F0 : AH) : AR → AH → Prop := fun r F' => r = .inl v ∧ ∃ f', SG Fg' f' ∧ (∀ q, (q < 28 ∨ 153 ≤ q) → f' q = f q) ∧ MA G F' m g f' A ∧ Fr m (m + 9) F0 F'
section
variable {G : GA} {F : AH} {m : Nat} {g f : Nat → Int32} {A : Nat → Nat → Int32} {σ : Sg} {B : Nat} {Fg : List (List Sp)}
set_option maxRecDepth 100000 in
theorem X9_cuts_ok (hM : MA G F m g f A) (ha : gN G ≤ m) (hG : SG Fg f) (i x : Nat) (hi : i < Fg.length) (hx : x < (fg Fg i).length) : AC G mX9_cuts 1 0 0 [.ref m, .int (nI i), .int (nI x)] F (MG G m (Fg.set i ((fg Fg i).eraseIdx x)) g f A none F) := by
  have h5 := hG.1
  obtain ⟨h8, hsc, hrow⟩ := hG.2 i hi
  have hV := X9_steps_ok hM i (by omega)
  rw [hsc] at hV
  have hlen : ((fg Fg i).eraseIdx x).length = (fg Fg i).length - 1 := List.length_eraseIdx_of_lt hx
  generalize hn : (fg Fg i).length - 1 = n at *
  have hn1 : (fg Fg i).length = n + 1 := by omega
  obtain ⟨h0, h1, hR⟩ := hM
  refine AC.of [some (.ref m), some (.int (nI i)), some (.int (nI x)), none, none, none] rfl (by decide) (Nat.le_of_ble_eq_true rfl) rfl ?_
  have hfr : Fr m (m + 9) F F := Fr.rf
  have zl : ∀ k j F1, j + k = 3 → MA G F1 m g (zfl (shf f (28 + 25 * i + 1 + 3 * x) (28 + 25 * i + 1 + 3 * n) 3) (28 + 25 * i + 1 + 3 * n) (28 + 25 * i + 1 + 3 * n + j)) A → Fr m (m + 9) F F1 → AF G mX9_cuts 1 0 0 (MG G m (Fg.set i ((fg Fg i).eraseIdx x)) g f A none F) F1 62 [some (.ref m), some (.int (nI i)), some (.int (nI x)), some (.int (nI (28 + 25 * i + 1))), some (.int (nI n)), some (.int (nI j))] [] := by
    intro k
    induction k with
    | zero =>
      intro j F1 hj hM hfr
      obtain ⟨h0, h1, hR⟩ := hM
      refine AF.iload dX9_cuts_62 rfl ?_
      refine AF.iconst (nI 3) dX9_cuts_64 (by decide) ?_
      refine AF.icmp_ge 89 dX9_cuts_65 (by decide) (fun hb => ?_) (fun hb => ?_)
      · refine AF.aload_n dX9_cuts_89 rfl ?_
        refine AF.getfield dX9_cuts_90 fl_X9_7 (by assumption) rfl ?_
        refine AF.bipush (nI 28) dX9_cuts_93 (by decide) ?_
        refine AF.bipush (nI 25) dX9_cuts_95 (by decide) ?_
        refine AF.iload_n dX9_cuts_97 rfl ?_
        refine AF.imul dX9_cuts_98 ?_
        refine AF.iadd dX9_cuts_99 ?_
        refine AF.iload dX9_cuts_100 rfl ?_
        refine AF.iastoreF (28 + 25 * i) dX9_cuts_102 h1 (by omega) (by first | rfl | exact nI_1 _ | (simp only [nI_add, pk_mul, nI_1]; exact congrArg nI (by omega)) | simp only [nI_add, pk_mul, nI_1]) (by omega) (by decide) ?_
        intro F e9 h9 o9
        replace h0 := (o9 (m) (by omega)).trans h0
        replace hR := hR.kept (fun q h1 h2 => o9 q (by omega))
        replace h1 := h9
        replace hfr := hfr.step e9 (by omega) (by omega) o9
        clear e9 h9 o9
        refine AF.vreturn dX9_cuts_103 rfl ⟨rfl, _, hG.row hi (by omega) (by rw [upd_s, hlen]) (fun k hk => ?_) (fun q q1 q2 q3 => by rw [upd_n (by omega), zfl_o (by omega), shf_o (by omega)]), fun q hq => by rw [upd_n (by omega), zfl_o (by omega), shf_o (by omega)], ⟨h0, h1, hR⟩, hfr⟩
        rw [hlen] at hk
        rw [upd_n (by omega), upd_n (by omega), upd_n (by omega), zfl_o (by omega), zfl_o (by omega), zfl_o (by omega), g3, gd_era]
        by_cases e : k < x
        · rw [if_pos e, shf_o (by omega), shf_o (by omega), shf_o (by omega)]
          exact hrow k (by omega)
        · rw [if_neg e, shf_i (by omega) (by omega), shf_i (by omega) (by omega), shf_i (by omega) (by omega), show 28 + 25 * i + 1 + 3 * k + 3 = 28 + 25 * i + 1 + 3 * (k + 1) by omega, show 28 + 25 * i + 1 + 3 * k + 1 + 3 = 28 + 25 * i + 1 + 3 * (k + 1) + 1 by omega, show 28 + 25 * i + 1 + 3 * k + 2 + 3 = 28 + 25 * i + 1 + 3 * (k + 1) + 2 by omega]
          exact hrow (k + 1) (by omega)
      · exact absurd (by rw [nI_leI (by omega) (by omega)]; omega) hb
    | succ k ih =>
      intro j F1 hj hM hfr
      obtain ⟨h0, h1, hR⟩ := hM
      refine AF.iload dX9_cuts_62 rfl ?_
      refine AF.iconst (nI 3) dX9_cuts_64 (by decide) ?_
      refine AF.icmp_ge 89 dX9_cuts_65 (by decide) (fun hb => ?_) (fun hb => ?_)
      · rw [nI_leI (by omega) (by omega)] at hb
        omega
      · refine AF.aload_n dX9_cuts_68 rfl ?_
        refine AF.getfield dX9_cuts_69 fl_X9_7 (by assumption) rfl ?_
        refine AF.iload_n dX9_cuts_72 rfl ?_
        refine AF.iconst (nI 3) dX9_cuts_73 (by decide) ?_
        refine AF.iload dX9_cuts_74 rfl ?_
        refine AF.imul dX9_cuts_76 ?_
        refine AF.iadd dX9_cuts_77 ?_
        refine AF.iload dX9_cuts_78 rfl ?_
        refine AF.iadd dX9_cuts_80 ?_
        refine AF.iconst (nI 0) dX9_cuts_81 (by decide) ?_
        refine AF.iastoreF (28 + 25 * i + 1 + 3 * n + j) dX9_cuts_82 h1 (by omega) (by first | rfl | exact nI_1 _ | (simp only [nI_add, pk_mul, nI_1]; exact congrArg nI (by omega)) | simp only [nI_add, pk_mul, nI_1]) (by omega) (by decide) ?_
        intro F e9 h9 o9
        replace h0 := (o9 (m) (by omega)).trans h0
        replace hR := hR.kept (fun q h1 h2 => o9 q (by omega))
        replace h1 := h9
        replace hfr := hfr.step e9 (by omega) (by omega) o9
        clear e9 h9 o9
        rw [show nI 0 = (0 : Int32) from rfl, zfl_step (by omega)] at h1
        refine AF.inc1 dX9_cuts_83 rfl (by decide) ?_
        refine AF.goto 62 dX9_cuts_86 (by decide) ?_
        exact ih (j + 1) F (by omega) ⟨h0, h1, hR⟩ hfr
  have sl : ∀ k j F1, j + k = 3 * n → 3 * x ≤ j → MA G F1 m g (shf f (28 + 25 * i + 1 + 3 * x) (28 + 25 * i + 1 + j) 3) A → Fr m (m + 9) F F1 → AF G mX9_cuts 1 0 0 (MG G m (Fg.set i ((fg Fg i).eraseIdx x)) g f A none F) F1 24 [some (.ref m), some (.int (nI i)), some (.int (nI x)), some (.int (nI (28 + 25 * i + 1))), some (.int (nI n)), some (.int (nI j))] [] := by
    intro k
    induction k with
    | zero =>
      intro j F1 hj hxj hM hfr
      obtain rfl : j = 3 * n := by omega
      have hM0 := hM
      obtain ⟨h0, h1, hR⟩ := hM
      refine AF.iload dX9_cuts_24 rfl ?_
      refine AF.iconst (nI 3) dX9_cuts_26 (by decide) ?_
      refine AF.iload dX9_cuts_27 rfl ?_
      refine AF.imul dX9_cuts_29 ?_
      rw [pk_mul]
      refine AF.icmp_ge 59 dX9_cuts_30 (by decide) (fun hb => ?_) (fun hb => ?_)
      · refine AF.iconst (0) dX9_cuts_59 (by decide) ?_
        refine AF.istore dX9_cuts_60 (by decide) ?_
        exact zl 3 0 F1 (by omega) (by rw [show 28 + 25 * i + 1 + 3 * n + 0 = 28 + 25 * i + 1 + 3 * n from rfl, zfl_0]; exact hM0) hfr
      · exact absurd (Int32.le_refl _) hb
    | succ k ih =>
      intro j F1 hj hxj hM hfr
      obtain ⟨h0, h1, hR⟩ := hM
      refine AF.iload dX9_cuts_24 rfl ?_
      refine AF.iconst (nI 3) dX9_cuts_26 (by decide) ?_
      refine AF.iload dX9_cuts_27 rfl ?_
      refine AF.imul dX9_cuts_29 ?_
      rw [pk_mul]
      refine AF.icmp_ge 59 dX9_cuts_30 (by decide) (fun hb => ?_) (fun hb => ?_)
      · rw [nI_leI (by omega) (by omega)] at hb
        omega
      · refine AF.aload_n dX9_cuts_33 rfl ?_
        refine AF.getfield dX9_cuts_34 fl_X9_7 (by assumption) rfl ?_
        refine AF.iload_n dX9_cuts_37 rfl ?_
        refine AF.iload dX9_cuts_38 rfl ?_
        refine AF.iadd dX9_cuts_40 ?_
        refine AF.aload_n dX9_cuts_41 rfl ?_
        refine AF.getfield dX9_cuts_42 fl_X9_7 (by assumption) rfl ?_
        refine AF.iload_n dX9_cuts_45 rfl ?_
        refine AF.iload dX9_cuts_46 rfl ?_
        refine AF.iadd dX9_cuts_48 ?_
        refine AF.iconst (nI 3) dX9_cuts_49 (by decide) ?_
        refine AF.iadd dX9_cuts_50 ?_
        refine AF.iaload (28 + 25 * i + 1 + j + 3) dX9_cuts_51 (by assumption) (by first | rfl | exact nI_1 _ | (simp only [nI_add, pk_mul, nI_1]; exact congrArg nI (by omega)) | simp only [nI_add, pk_mul, nI_1]) (by omega) (by decide) ?_
        refine AF.iastoreF (28 + 25 * i + 1 + j) dX9_cuts_52 h1 (by omega) (by first | rfl | exact nI_1 _ | (simp only [nI_add, pk_mul, nI_1]; exact congrArg nI (by omega)) | simp only [nI_add, pk_mul, nI_1]) (by omega) (by decide) ?_
        intro F e9 h9 o9
        replace h0 := (o9 (m) (by omega)).trans h0
        replace hR := hR.kept (fun q h1 h2 => o9 q (by omega))
        replace h1 := h9
        replace hfr := hfr.step e9 (by omega) (by omega) o9
        clear e9 h9 o9
        rw [shf_step (by omega)] at h1
        refine AF.inc1 dX9_cuts_53 rfl (by decide) ?_
        refine AF.goto 24 dX9_cuts_56 (by decide) ?_
        exact ih (j + 1) F (by omega) (by omega) ⟨h0, h1, hR⟩ hfr
  rw [hn1] at hV
  refine AF.bipush (nI 28) dX9_cuts_0 (by decide) ?_
  refine AF.bipush (nI 25) dX9_cuts_2 (by decide) ?_
  refine AF.iload_n dX9_cuts_4 rfl ?_
  refine AF.imul dX9_cuts_5 ?_
  rw [pk_mul]
  refine AF.iadd dX9_cuts_6 ?_
  rw [nI_add]
  refine AF.iconst (nI 1) dX9_cuts_7 (by decide) ?_
  refine AF.iadd dX9_cuts_8 ?_
  rw [nI_add]
  refine AF.istore_n dX9_cuts_9 (by decide) ?_
  refine AF.aload_n dX9_cuts_10 rfl ?_
  refine AF.iload_n dX9_cuts_11 rfl ?_
  refine AF.v1 dX9_cuts_12 kv_X9_77 (hV) (by assumption) rfl rfl rfl (Nat.le_of_ble_eq_true rfl) (by decide) rfl ?_
  refine AF.iconst (nI 1) dX9_cuts_15 (by decide) ?_
  refine AF.isub dX9_cuts_16 ?_
  rw [show nI (n + 1) - nI 1 = nI n from nI_pred n]
  refine AF.istore dX9_cuts_17 (by decide) ?_
  refine AF.iconst (nI 3) dX9_cuts_19 (by decide) ?_
  refine AF.iload_n dX9_cuts_20 rfl ?_
  refine AF.imul dX9_cuts_21 ?_
  rw [pk_mul]
  refine AF.istore dX9_cuts_22 (by decide) ?_
  exact sl (3 * n - 3 * x) (3 * x) F (by omega) (Nat.le_refl _) (by rw [shf_0]; exact ⟨h0, h1, hR⟩) hfr
end

