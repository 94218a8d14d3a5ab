/-! The reference as the runs see it: its whole state; its changes. -/
/-- the stage, what was saved, the stages before the latest changes (the oldest first), the input buffer, the output, the error position and the failed command kept (-1: none) -/
abbrev XS : Type := Sg × Option Sg × List Sg × List Int32 × List Int32 × Int32 × Int32
abbrev XS.sg (X : XS) : Sg := X.1
abbrev XS.sv (X : XS) : Option Sg := X.2.1
abbrev XS.hs (X : XS) : List Sg := X.2.2.1
abbrev XS.tx (X : XS) : List Int32 := X.2.2.2.1
abbrev XS.ou (X : XS) : List Int32 := X.2.2.2.2.1
abbrev XS.er (X : XS) : Int32 := X.2.2.2.2.2.1
abbrev XS.fa (X : XS) : Int32 := X.2.2.2.2.2.2
def s0 : Sg := ([], 40, 0, [], [], 0, 0, 0)
def hget (Hs : List Sg) (i : Nat) : Sg := Hs.getD i s0
def HR (Hs : List Sg) (h : Nat → Int32) : Prop := ∀ i, i < Hs.length → SR (hget Hs i) (fun q => h (165 * i + q))
def pushH (Hs : List Sg) (σ : Sg) : List Sg := (if Hs.length = 8 then Hs.eraseIdx 0 else Hs) ++ [σ]
def MXr (X : XS) (g : Nat → Int32) (A : Nat → Nat → Int32) : Prop := (g 6 = nI X.hs.length ∧ X.hs.length ≤ 8 ∧ HR X.hs (A 3)) ∧ (g 7 = bI X.sv.isSome ∧ ∀ τ, X.sv = some τ → SR τ (A 2)) ∧ (g 11 = nI X.tx.length ∧ X.tx.length ≤ 60 ∧ ∀ i, i < X.tx.length → A 5 i = X.tx.getD i 0) ∧ (g 12 = nI X.ou.length ∧ X.ou.length ≤ 90 ∧ ∀ i, i < X.ou.length → A 7 i = X.ou.getD i 0) ∧ g 13 = X.er ∧ g 14 = X.fa
def MX (G : GA) (F : AH) (m : Nat) (X : XS) (th : Int32) : Prop := ∃ g f A, MA G F m g f A ∧ SR X.sg f ∧ g 0 = th ∧ MXr X g A
def XI (X : XS) (B : Nat) : Prop := SQ X.sg B ∧ (∀ τ, X.sv = some τ → SQ τ B) ∧ (∀ τ, τ ∈ X.hs → SQ τ B) ∧ X.hs.length ≤ 8 ∧ (X.tx.length ≤ 60 ∧ ∀ i, i < X.tx.length → (X.tx.getD i 0).toUInt32 < 65536) ∧ X.ou.length ≤ 72 ∧ ∀ i, i < X.ou.length → ∃ c, c < 128 ∧ X.ou.getD i 0 = nI c
/-- a change was made -/
def chX (X : XS) (σ' : Sg) (p : Nat) : XS := if p = 0 then (σ', X.sv, pushH X.hs X.sg, X.tx, X.ou, X.er, X.fa) else X
/-- what the reference answers (0 where it throws), what it throws, what it leaves -/
def MQq (G : GA) (m : Nat) (X' : XS) (p : Nat) (an : Int32) (F0 : AH) : AR → AH → Prop := fun r F' => r = .inl (some (.int (if p = 0 then an else 0))) ∧ MX G F' m X' (nI p) ∧ Fr m (m + 9) F0 F'
def uA (A : Nat → Nat → Int32) (k : Nat) (f : Nat → Int32) : Nat → Nat → Int32 := fun i => if i = k then f else A i
theorem MX.kept {G : GA} {F F' : AH} {m : Nat} {X : XS} {th : Int32} (h : MX G F m X th) (e : ∀ q, m ≤ q → q < m + 9 → F'.2 q = F.2 q) : MX G F' m X th := by
  obtain ⟨g, f, A, h1, h2⟩ := h
  exact ⟨g, f, A, h1.kept e, h2⟩
theorem hget_app {Hs : List Sg} {σ : Sg} {i : Nat} : hget (Hs ++ [σ]) i = if i = Hs.length then σ else hget Hs i := gd_app
theorem hget_era {Hs : List Sg} {i : Nat} : hget (Hs.eraseIdx 0) i = hget Hs (i + 1) := by
  rw [hget, gd_era, if_neg (by omega)]; rfl
theorem pushH_len {Hs : List Sg} {σ : Sg} (h : Hs.length ≤ 8) : (pushH Hs σ).length = if Hs.length = 8 then 8 else Hs.length + 1 := by
  unfold pushH
  split
  · rename_i q; rw [List.length_append, List.length_eraseIdx_of_lt (by omega), q]; rfl
  · rw [List.length_append]; rfl
theorem pushH_le {Hs : List Sg} {σ : Sg} (h : Hs.length ≤ 8) : (pushH Hs σ).length ≤ 8 := by
  rw [pushH_len h]; split <;> omega
section
variable {G : GA} {F : AH} {m : Nat} {g f : Nat → Int32} {A : Nat → Nat → Int32} {σ : Sg} {B : Nat} {X : XS} {th : Int32}

set_option maxRecDepth 100000 in
theorem X9_remembers_ok (hM : MA G F m g f A) (ha : gN G ≤ m) : AC G mX9_remembers 0 0 0 [.ref m] F (MW G m (upd g 0 0) f (uA A 1 (cpU f (A 1) 165)) none F) := by
  refine AC.of [some (.ref m), none] rfl (by decide) (Nat.le_of_ble_eq_true rfl) rfl ?_
  have loop : ∀ k j F1, j + k = 165 → MA G F1 m (upd g 0 0) f (uA A 1 (cpU f (A 1) j)) → Fr m (m + 9) F F1 → AF G mX9_remembers 0 0 0 (MW G m (upd g 0 0) f (uA A 1 (cpU f (A 1) 165)) none F) F1 7 [some (.ref m), some (.int (nI j))] [] := by
    intro k
    induction k with
    | zero =>
      intro j F1 hj hM hfr
      obtain rfl : j = 165 := by omega
      obtain ⟨h0, h1, h2, h3, h4, h5, h6, h7, h8⟩ := id hM
      refine AF.iload_n dX9_remembers_7 rfl ?_
      refine AF.sipush (nI 165) dX9_remembers_8 (by decide) ?_
      refine AF.icmp_ge 32 dX9_remembers_11 (by decide) (fun hb => ?_) (fun hb => ?_)
      · exact AF.vreturn dX9_remembers_32 rfl ⟨rfl, hM, hfr⟩
      · exact absurd (Int32.le_refl _) hb
    | succ k ih =>
      intro j F1 hj hM hfr
      obtain ⟨h0, h1, h2, h3, h4, h5, h6, h7, h8⟩ := hM
      refine AF.iload_n dX9_remembers_7 rfl ?_
      refine AF.sipush (nI 165) dX9_remembers_8 (by decide) ?_
      refine AF.icmp_ge 32 dX9_remembers_11 (by decide) (fun hb => ?_) (fun hb => ?_)
      · rw [nI_leI (by omega) (by omega)] at hb
        omega
      · refine AF.aload_n dX9_remembers_14 rfl ?_
        refine AF.getfield dX9_remembers_15 fl_X9_13 (by assumption) rfl ?_
        refine AF.iload_n dX9_remembers_18 rfl ?_
        refine AF.aload_n dX9_remembers_19 rfl ?_
        refine AF.getfield dX9_remembers_20 fl_X9_7 (by assumption) rfl ?_
        refine AF.iload_n dX9_remembers_23 rfl ?_
        refine AF.iaload (_) dX9_remembers_24 (by assumption) rfl (by omega) (by decide) ?_
        refine AF.iastoreF (_) dX9_remembers_25 h2 (by omega) rfl (by omega) (by decide) ?_
        intro F e9 h9 o9
        replace h0 := (o9 (m) (by omega)).trans h0
        replace h1 := (o9 (m + 1) (by omega)).trans h1
        replace h3 := (o9 (m + 3) (by omega)).trans h3
        replace h4 := (o9 (m + 4) (by omega)).trans h4
        replace h5 := (o9 (m + 5) (by omega)).trans h5
        replace h6 := (o9 (m + 6) (by omega)).trans h6
        replace h7 := (o9 (m + 7) (by omega)).trans h7
        replace h8 := (o9 (m + 8) (by omega)).trans h8
        replace h2 := h9
        replace hfr := hfr.step e9 (by omega) (by omega) o9
        clear e9 h9 o9
        rw [show upd (uA A 1 (cpU f (A 1) j) 1) j (f j) = cpU f (A 1) (j + 1) from cpU_step] at h2
        refine AF.inc1 dX9_remembers_26 rfl (by decide) ?_
        refine AF.goto 7 dX9_remembers_29 (by decide) ?_
        exact ih (j + 1) F (by omega) ⟨h0, h1, h2, h3, h4, h5, h6, h7, h8⟩ hfr
  have hfr : Fr m (m + 9) F F := Fr.rf
  obtain ⟨h0, h1, h2, h3, h4, h5, h6, h7, h8⟩ := hM
  refine AF.aload_n dX9_remembers_0 rfl ?_
  refine AF.iconst (0) dX9_remembers_1 (by decide) ?_
  refine AF.putfieldF dX9_remembers_2 fp_X9_41 h0 (by omega) (Nat.le_of_ble_eq_true rfl) rfl rfl (Or.inr fq_6_0) ?_
  intro F e9 h9 o9
  replace h1 := (o9 (m + 1) (by omega)).trans h1
  replace h2 := (o9 (m + 2) (by omega)).trans h2
  replace h3 := (o9 (m + 3) (by omega)).trans h3
  replace h4 := (o9 (m + 4) (by omega)).trans h4
  replace h5 := (o9 (m + 5) (by omega)).trans h5
  replace h6 := (o9 (m + 6) (by omega)).trans h6
  replace h7 := (o9 (m + 7) (by omega)).trans h7
  replace h8 := (o9 (m + 8) (by omega)).trans h8
  replace h0 := h9
  replace hfr := hfr.step e9 (by omega) (by omega) o9
  clear e9 h9 o9
  refine AF.iconst (0) dX9_remembers_5 (by decide) ?_
  refine AF.istore_n dX9_remembers_6 (by decide) ?_
  exact loop 165 0 F (by omega) ⟨h0, h1, by rw [cpU_0]; exact h2, h3, h4, h5, h6, h7, h8⟩ hfr
set_option maxRecDepth 100000 in
theorem X9_thinks_ok (hM : MA G F m g f A) (ha : gN G ≤ m) : AC G mX9_thinks 0 0 0 [.ref m] F (MW G m g f (uA A 4 (cpU f (A 4) 165)) none F) := by
  refine AC.of [some (.ref m), none] rfl (by decide) (Nat.le_of_ble_eq_true rfl) rfl ?_
  have loop : ∀ k j F1, j + k = 165 → MA G F1 m g f (uA A 4 (cpU f (A 4) j)) → Fr m (m + 9) F F1 → AF G mX9_thinks 0 0 0 (MW G m g f (uA A 4 (cpU f (A 4) 165)) none F) F1 2 [some (.ref m), some (.int (nI j))] [] := by
    intro k
    induction k with
    | zero =>
      intro j F1 hj hM hfr
      obtain rfl : j = 165 := by omega
      obtain ⟨h0, h1, h2, h3, h4, h5, h6, h7, h8⟩ := id hM
      refine AF.iload_n dX9_thinks_2 rfl ?_
      refine AF.sipush (nI 165) dX9_thinks_3 (by decide) ?_
      refine AF.icmp_ge 27 dX9_thinks_6 (by decide) (fun hb => ?_) (fun hb => ?_)
      · exact AF.vreturn dX9_thinks_27 rfl ⟨rfl, hM, hfr⟩
      · exact absurd (Int32.le_refl _) hb
    | succ k ih =>
      intro j F1 hj hM hfr
      obtain ⟨h0, h1, h2, h3, h4, h5, h6, h7, h8⟩ := hM
      refine AF.iload_n dX9_thinks_2 rfl ?_
      refine AF.sipush (nI 165) dX9_thinks_3 (by decide) ?_
      refine AF.icmp_ge 27 dX9_thinks_6 (by decide) (fun hb => ?_) (fun hb => ?_)
      · rw [nI_leI (by omega) (by omega)] at hb
        omega
      · refine AF.aload_n dX9_thinks_9 rfl ?_
        refine AF.getfield dX9_thinks_10 fl_X9_22 (by assumption) rfl ?_
        refine AF.iload_n dX9_thinks_13 rfl ?_
        refine AF.aload_n dX9_thinks_14 rfl ?_
        refine AF.getfield dX9_thinks_15 fl_X9_7 (by assumption) rfl ?_
        refine AF.iload_n dX9_thinks_18 rfl ?_
        refine AF.iaload (_) dX9_thinks_19 (by assumption) rfl (by omega) (by decide) ?_
        refine AF.iastoreF (_) dX9_thinks_20 h5 (by omega) rfl (by omega) (by decide) ?_
        intro F e9 h9 o9
        replace h0 := (o9 (m) (by omega)).trans h0
        replace h1 := (o9 (m + 1) (by omega)).trans h1
        replace h2 := (o9 (m + 2) (by omega)).trans h2
        replace h3 := (o9 (m + 3) (by omega)).trans h3
        replace h4 := (o9 (m + 4) (by omega)).trans h4
        replace h6 := (o9 (m + 6) (by omega)).trans h6
        replace h7 := (o9 (m + 7) (by omega)).trans h7
        replace h8 := (o9 (m + 8) (by omega)).trans h8
        replace h5 := h9
        replace hfr := hfr.step e9 (by omega) (by omega) o9
        clear e9 h9 o9
        rw [show upd (uA A 4 (cpU f (A 4) j) 4) j (f j) = cpU f (A 4) (j + 1) from cpU_step] at h5
        refine AF.inc1 dX9_thinks_21 rfl (by decide) ?_
        refine AF.goto 2 dX9_thinks_24 (by decide) ?_
        exact ih (j + 1) F (by omega) ⟨h0, h1, h2, h3, h4, h5, h6, h7, h8⟩ hfr
  have hfr : Fr m (m + 9) F F := Fr.rf
  obtain ⟨h0, h1, h2, h3, h4, h5, h6, h7, h8⟩ := hM
  refine AF.iconst (0) dX9_thinks_0 (by decide) ?_
  refine AF.istore_n dX9_thinks_1 (by decide) ?_
  exact loop 165 0 F (by omega) ⟨h0, h1, h2, h3, h4, by rw [cpU_0]; exact h5, h6, h7, h8⟩ hfr
set_option maxRecDepth 100000 in
theorem X9_forgets_ok (hM : MA G F m g f A) (ha : gN G ≤ m) : AC G mX9_forgets 0 0 0 [.ref m] F (MW G m g (cpU (A 4) f 165) A none F) := by
  refine AC.of [some (.ref m), none] rfl (by decide) (Nat.le_of_ble_eq_true rfl) rfl ?_
  have loop : ∀ k j F1, j + k = 165 → MA G F1 m g (cpU (A 4) f j) A → Fr m (m + 9) F F1 → AF G mX9_forgets 0 0 0 (MW G m g (cpU (A 4) f 165) A none F) F1 2 [some (.ref m), some (.int (nI j))] [] := by
    intro k
    induction k with
    | zero =>
      intro j F1 hj hM hfr
      obtain rfl : j = 165 := by omega
      obtain ⟨h0, h1, h2, h3, h4, h5, h6, h7, h8⟩ := id hM
      refine AF.iload_n dX9_forgets_2 rfl ?_
      refine AF.sipush (nI 165) dX9_forgets_3 (by decide) ?_
      refine AF.icmp_ge 27 dX9_forgets_6 (by decide) (fun hb => ?_) (fun hb => ?_)
      · exact AF.vreturn dX9_forgets_27 rfl ⟨rfl, hM, hfr⟩
      · exact absurd (Int32.le_refl _) hb
    | succ k ih =>
      intro j F1 hj hM hfr
      obtain ⟨h0, h1, h2, h3, h4, h5, h6, h7, h8⟩ := hM
      refine AF.iload_n dX9_forgets_2 rfl ?_
      refine AF.sipush (nI 165) dX9_forgets_3 (by decide) ?_
      refine AF.icmp_ge 27 dX9_forgets_6 (by decide) (fun hb => ?_) (fun hb => ?_)
      · rw [nI_leI (by omega) (by omega)] at hb
        omega
      · refine AF.aload_n dX9_forgets_9 rfl ?_
        refine AF.getfield dX9_forgets_10 fl_X9_7 (by assumption) rfl ?_
        refine AF.iload_n dX9_forgets_13 rfl ?_
        refine AF.aload_n dX9_forgets_14 rfl ?_
        refine AF.getfield dX9_forgets_15 fl_X9_22 (by assumption) rfl ?_
        refine AF.iload_n dX9_forgets_18 rfl ?_
        refine AF.iaload (_) dX9_forgets_19 (by assumption) rfl (by omega) (by decide) ?_
        refine AF.iastoreF (_) dX9_forgets_20 h1 (by omega) rfl (by omega) (by decide) ?_
        intro F e9 h9 o9
        replace h0 := (o9 (m) (by omega)).trans h0
        replace h2 := (o9 (m + 2) (by omega)).trans h2
        replace h3 := (o9 (m + 3) (by omega)).trans h3
        replace h4 := (o9 (m + 4) (by omega)).trans h4
        replace h5 := (o9 (m + 5) (by omega)).trans h5
        replace h6 := (o9 (m + 6) (by omega)).trans h6
        replace h7 := (o9 (m + 7) (by omega)).trans h7
        replace h8 := (o9 (m + 8) (by omega)).trans h8
        replace h1 := h9
        replace hfr := hfr.step e9 (by omega) (by omega) o9
        clear e9 h9 o9
        rw [cpU_step] at h1
        refine AF.inc1 dX9_forgets_21 rfl (by decide) ?_
        refine AF.goto 2 dX9_forgets_24 (by decide) ?_
        exact ih (j + 1) F (by omega) ⟨h0, h1, h2, h3, h4, h5, h6, h7, h8⟩ hfr
  have hfr : Fr m (m + 9) F F := Fr.rf
  obtain ⟨h0, h1, h2, h3, h4, h5, h6, h7, h8⟩ := hM
  refine AF.iconst (0) dX9_forgets_0 (by decide) ?_
  refine AF.istore_n dX9_forgets_1 (by decide) ?_
  exact loop 165 0 F (by omega) ⟨h0, by rw [cpU_0]; exact h1, h2, h3, h4, h5, h6, h7, h8⟩ hfr
theorem SR.cp {σ : Sg} {a b : Nat → Int32} (h : SR σ a) : SR σ (cpU a b 165) := h.kept (fun q hq => cpU_i hq)
set_option maxRecDepth 100000 in
set_option maxHeartbeats 4000000 in
theorem X9_changed_ok (hM : MA G F m g f A) (ha : gN G ≤ m) {Hs : List Sg} (hk : g 6 = nI Hs.length) (h8' : Hs.length ≤ 8) (hH : HR Hs (A 3)) (hS : SR σ (A 1)) (x : Int32) : AC G mX9_changed 0 0 0 [.ref m, .int x] F (fun r F' => r = .inl (some (.int x)) ∧ ∃ h', HR (pushH Hs σ) h' ∧ MA G F' m (upd g 6 (nI (pushH Hs σ).length)) f (uA A 3 h') ∧ Fr m (m + 9) F F') := by
  refine AC.of [some (.ref m), some (.int x), none] rfl (by decide) (Nat.le_of_ble_eq_true rfl) rfl ?_
  have p2 : ∀ (n : Nat) (h : Nat → Int32), n < 8 → (∀ h', (∀ q, q < 165 * n → h' q = h q) → (∀ q, q < 165 → h' (165 * n + q) = A 1 q) → HR (pushH Hs σ) h') → nI (pushH Hs σ).length = nI (n + 1) → ∀ k j F1 h1', j + k = 165 → (∀ q, q < 165 * n → h1' q = h q) → (∀ q, q < j → h1' (165 * n + q) = A 1 q) → MA G F1 m (upd g 6 (nI (n + 1))) f (uA A 3 h1') → Fr m (m + 9) F F1 → AF G mX9_changed 0 0 0 (fun r F' => r = .inl (some (.int x)) ∧ ∃ h', HR (pushH Hs σ) h' ∧ MA G F' m (upd g 6 (nI (pushH Hs σ).length)) f (uA A 3 h') ∧ Fr m (m + 9) F F') F1 55 [some (.ref m), some (.int x), some (.int (nI j))] [] := by
    intro n h hn8 hfin hln k
    induction k with
    | zero =>
      intro j F1 h1' hj hq1 hq2 hM hfr
      obtain rfl : j = 165 := by omega
      obtain ⟨h0, h1, h2, h3, h4, h5, h6, h7, h8⟩ := id hM
      refine AF.iload_n dX9_changed_55 rfl ?_
      refine AF.sipush (nI 165) dX9_changed_56 (by decide) ?_
      refine AF.icmp_ge 91 dX9_changed_59 (by decide) (fun hb => ?_) (fun hb => ?_)
      · refine AF.iload_n dX9_changed_91 rfl ?_
        exact AF.ireturn dX9_changed_92 rfl ⟨rfl, h1', hfin h1' hq1 hq2, by rw [hln]; exact hM, hfr⟩
      · exact absurd (Int32.le_refl _) hb
    | succ k ih =>
      intro j F1 h1' hj hq1 hq2 hM hfr
      obtain ⟨h0, h1, h2, h3, h4, h5, h6, h7, h8⟩ := hM
      refine AF.iload_n dX9_changed_55 rfl ?_
      refine AF.sipush (nI 165) dX9_changed_56 (by decide) ?_
      refine AF.icmp_ge 91 dX9_changed_59 (by decide) (fun hb => ?_) (fun hb => ?_)
      · rw [nI_leI (by omega) (by omega)] at hb
        omega
      · refine AF.aload_n dX9_changed_62 rfl ?_
        refine AF.getfield dX9_changed_63 fl_X9_19 (by assumption) rfl ?_
        refine AF.sipush (nI 165) dX9_changed_66 (by decide) ?_
        refine AF.aload_n dX9_changed_69 rfl ?_
        refine AF.getfield dX9_changed_70 fl_X9_44 (by assumption) rfl ?_
        rw [show upd g 6 (nI (n + 1)) 6 = nI (n + 1) from rfl]
        refine AF.iconst (nI 1) dX9_changed_73 (by decide) ?_
        refine AF.isub dX9_changed_74 ?_
        rw [show nI (n + 1) - nI 1 = nI n from nI_pred n]
        refine AF.imul dX9_changed_75 ?_
        rw [pk_mul]
        refine AF.iload_n dX9_changed_76 rfl ?_
        refine AF.iadd dX9_changed_77 ?_
        rw [nI_add]
        refine AF.aload_n dX9_changed_78 rfl ?_
        refine AF.getfield dX9_changed_79 fl_X9_13 (by assumption) rfl ?_
        refine AF.iload_n dX9_changed_82 rfl ?_
        refine AF.iaload (j) dX9_changed_83 (by assumption) (by first | rfl | exact nI_1 _ | (simp only [nI_add, pk_mul, nI_1]; exact congrArg nI (by omega)) | simp only [nI_add, pk_mul, nI_1]) (by omega) (by decide) ?_
        refine AF.iastoreF (165 * n + j) dX9_changed_84 h4 (by omega) (by first | rfl | exact nI_1 _ | (simp only [nI_add, pk_mul, nI_1]; exact congrArg nI (by omega)) | simp only [nI_add, pk_mul, nI_1]) (by omega) (by decide) ?_
        intro F e9 h9 o9
        replace h0 := (o9 (m) (by omega)).trans h0
        replace h1 := (o9 (m + 1) (by omega)).trans h1
        replace h2 := (o9 (m + 2) (by omega)).trans h2
        replace h3 := (o9 (m + 3) (by omega)).trans h3
        replace h5 := (o9 (m + 5) (by omega)).trans h5
        replace h6 := (o9 (m + 6) (by omega)).trans h6
        replace h7 := (o9 (m + 7) (by omega)).trans h7
        replace h8 := (o9 (m + 8) (by omega)).trans h8
        replace h4 := h9
        replace hfr := hfr.step e9 (by omega) (by omega) o9
        clear e9 h9 o9
        refine AF.inc1 dX9_changed_85 rfl (by decide) ?_
        refine AF.goto 55 dX9_changed_88 (by decide) ?_
        refine ih (j + 1) F (upd h1' (165 * n + j) (A 1 j)) (by omega) (fun q hq => ?_) (fun q hq => ?_) ⟨h0, h1, h2, h3, h4, h5, h6, h7, h8⟩ hfr
        · rw [upd_n (by omega)]; exact hq1 q hq
        · by_cases e : q = j
          · subst e; rw [upd_s]
          · rw [upd_n (by omega)]; exact hq2 q (by omega)
  have hfr : Fr m (m + 9) F F := Fr.rf
  obtain ⟨h0, h1, h2, h3, h4, h5, h6, h7, h8⟩ := id hM
  refine AF.aload_n dX9_changed_0 rfl ?_
  refine AF.getfield dX9_changed_1 fl_X9_44 (by assumption) rfl ?_
  rw [hk]
  refine AF.bipush (nI 8) dX9_changed_4 (by decide) ?_
  refine AF.icmp_ne 43 dX9_changed_6 (by decide) (fun hc => ?_) (fun hc => ?_)
  · rw [nI_eq (by omega) (by omega)] at hc
    have hl := pushH_len (σ := σ) h8'
    rw [if_neg hc] at hl
    refine AF.aload_n dX9_changed_43 rfl ?_
    refine AF.dup dX9_changed_44 rfl ?_
    refine AF.getfield dX9_changed_45 fl_X9_44 (by assumption) rfl ?_
    rw [hk]
    refine AF.iconst (nI 1) dX9_changed_48 (by decide) ?_
    refine AF.iadd dX9_changed_49 ?_
    rw [nI_add]
    refine AF.putfieldF dX9_changed_50 fp_X9_44 h0 (by omega) (Nat.le_of_ble_eq_true rfl) rfl rfl (Or.inr fq_6_6) ?_
    intro F e9 h9 o9
    replace h1 := (o9 (m + 1) (by omega)).trans h1
    replace h2 := (o9 (m + 2) (by omega)).trans h2
    replace h3 := (o9 (m + 3) (by omega)).trans h3
    replace h4 := (o9 (m + 4) (by omega)).trans h4
    replace h5 := (o9 (m + 5) (by omega)).trans h5
    replace h6 := (o9 (m + 6) (by omega)).trans h6
    replace h7 := (o9 (m + 7) (by omega)).trans h7
    replace h8 := (o9 (m + 8) (by omega)).trans h8
    replace h0 := h9
    replace hfr := hfr.step e9 (by omega) (by omega) o9
    clear e9 h9 o9
    refine AF.iconst (nI 0) dX9_changed_53 (by decide) ?_
    refine AF.istore_n dX9_changed_54 (by decide) ?_
    refine p2 Hs.length (A 3) (by omega) (fun h' q1 q2 => ?_) (by rw [hl]) 165 0 F (A 3) (by omega) (fun _ _ => rfl) (fun q hq => absurd hq (Nat.not_lt_zero _)) ⟨h0, h1, h2, h3, h4, h5, h6, h7, h8⟩ hfr
    intro i hi
    rw [hl] at hi
    rw [pushH, if_neg hc, hget_app]
    split
    · rename_i e; subst e; exact hS.kept (fun q hq => q2 q hq)
    · rename_i e; exact (hH i (by omega)).kept (fun q hq => q1 _ (by omega))
  · rw [nI_eq (by omega) (by omega)] at hc
    have hl := pushH_len (σ := σ) h8'
    rw [if_pos hc] at hl
    have sl : ∀ k j F1, j + k = 1155 → MA G F1 m g f (uA A 3 (shf (A 3) 0 j 165)) → Fr m (m + 9) F F1 → AF G mX9_changed 0 0 0 (fun r F' => r = .inl (some (.int x)) ∧ ∃ h', HR (pushH Hs σ) h' ∧ MA G F' m (upd g 6 (nI (pushH Hs σ).length)) f (uA A 3 h') ∧ Fr m (m + 9) F F') F1 11 [some (.ref m), some (.int x), some (.int (nI j))] [] := by
      intro k
      induction k with
      | zero =>
        intro j F1 hj hM hfr
        obtain rfl : j = 1155 := by omega
        obtain ⟨h0, h1, h2, h3, h4, h5, h6, h7, h8⟩ := hM
        refine AF.iload_n dX9_changed_11 rfl ?_
        refine AF.sipush (nI 1155) dX9_changed_12 (by decide) ?_
        refine AF.icmp_ge 40 dX9_changed_15 (by decide) (fun hb => ?_) (fun hb => ?_)
        · refine AF.goto 53 dX9_changed_40 (by decide) ?_
          refine AF.iconst (nI 0) dX9_changed_53 (by decide) ?_
          refine AF.istore_n dX9_changed_54 (by decide) ?_
          refine p2 7 (shf (A 3) 0 1155 165) (by omega) (fun h' q1 q2 => ?_) (by rw [hl]) 165 0 F1 _ (by omega) (fun _ _ => rfl) (fun q hq => absurd hq (Nat.not_lt_zero _)) ⟨?_, h1, h2, h3, h4, h5, h6, h7, h8⟩ hfr
          · intro i hi
            rw [hl] at hi
            rw [pushH, if_pos hc, hget_app, List.length_eraseIdx_of_lt (by omega), hc]
            split
            · rename_i e; subst e; exact hS.kept (fun q hq => q2 q hq)
            · rename_i e
              rw [hget_era]
              refine (hH (i + 1) (by omega)).kept (fun q hq => ?_)
              rw [q1 _ (by omega), shf_i (by omega) (by omega), show 165 * i + q + 165 = 165 * (i + 1) + q by omega]
          · rw [hc] at hk
            have : upd g 6 (nI (7 + 1)) = g := funext fun q => by
              by_cases e : q = 6
              · rw [e, upd_s, hk]
              · rw [upd_n e]
            rw [this]
            exact h0
        · exact absurd (Int32.le_refl _) hb
      | succ k ih =>
        intro j F1 hj hM hfr
        obtain ⟨h0, h1, h2, h3, h4, h5, h6, h7, h8⟩ := hM
        refine AF.iload_n dX9_changed_11 rfl ?_
        refine AF.sipush (nI 1155) dX9_changed_12 (by decide) ?_
        refine AF.icmp_ge 40 dX9_changed_15 (by decide) (fun hb => ?_) (fun hb => ?_)
        · rw [nI_leI (by omega) (by omega)] at hb
          omega
        · refine AF.aload_n dX9_changed_18 rfl ?_
          refine AF.getfield dX9_changed_19 fl_X9_19 (by assumption) rfl ?_
          refine AF.iload_n dX9_changed_22 rfl ?_
          refine AF.aload_n dX9_changed_23 rfl ?_
          refine AF.getfield dX9_changed_24 fl_X9_19 (by assumption) rfl ?_
          refine AF.iload_n dX9_changed_27 rfl ?_
          refine AF.sipush (nI 165) dX9_changed_28 (by decide) ?_
          refine AF.iadd dX9_changed_31 ?_
          refine AF.iaload (j + 165) dX9_changed_32 (by assumption) (by first | rfl | exact nI_1 _ | (simp only [nI_add, pk_mul, nI_1]; exact congrArg nI (by omega)) | simp only [nI_add, pk_mul, nI_1]) (by omega) (by decide) ?_
          refine AF.iastoreF (j) dX9_changed_33 h4 (by omega) (by first | rfl | exact nI_1 _ | (simp only [nI_add, pk_mul, nI_1]; exact congrArg nI (by omega)) | simp only [nI_add, pk_mul, nI_1]) (by omega) (by decide) ?_
          intro F e9 h9 o9
          replace h0 := (o9 (m) (by omega)).trans h0
          replace h1 := (o9 (m + 1) (by omega)).trans h1
          replace h2 := (o9 (m + 2) (by omega)).trans h2
          replace h3 := (o9 (m + 3) (by omega)).trans h3
          replace h5 := (o9 (m + 5) (by omega)).trans h5
          replace h6 := (o9 (m + 6) (by omega)).trans h6
          replace h7 := (o9 (m + 7) (by omega)).trans h7
          replace h8 := (o9 (m + 8) (by omega)).trans h8
          replace h4 := h9
          replace hfr := hfr.step e9 (by omega) (by omega) o9
          clear e9 h9 o9
          rw [show upd (uA A 3 (shf (A 3) 0 j 165) 3) j (uA A 3 (shf (A 3) 0 j 165) 3 (j + 165)) = shf (A 3) 0 (j + 1) 165 from shf_step (by omega)] at h4
          refine AF.inc1 dX9_changed_34 rfl (by decide) ?_
          refine AF.goto 11 dX9_changed_37 (by decide) ?_
          exact ih (j + 1) F (by omega) ⟨h0, h1, h2, h3, h4, h5, h6, h7, h8⟩ hfr
    refine AF.iconst (nI 0) dX9_changed_9 (by decide) ?_
    refine AF.istore_n dX9_changed_10 (by decide) ?_
    exact sl 1155 0 F (by omega) ⟨h0, h1, h2, h3, by rw [shf_0]; exact h4, h5, h6, h7, h8⟩ hfr
set_option maxRecDepth 100000 in
theorem X9_ends_y (hM : MA G F m g f A) (ha : gN G ≤ m) {Hs : List Sg} (hk : g 6 = nI Hs.length) (h8' : Hs.length ≤ 8) (hH : HR Hs (A 3)) (hS : SR σ (A 1)) : AC G mX9_ends 1 0 0 [.ref m, .int (nI 0)] F (fun r F' => r = .inl (some (.int (g 15))) ∧ ∃ h', HR (pushH Hs σ) h' ∧ MA G F' m (upd g 6 (nI (pushH Hs σ).length)) f (uA A 3 h') ∧ Fr m (m + 9) F F') := by
  have hC := X9_changed_ok hM ha hk h8' hH hS (g 15)
  refine AC.of [some (.ref m), some (.int (nI 0))] rfl (by decide) (Nat.le_of_ble_eq_true rfl) rfl ?_
  obtain ⟨h0, h1, hR⟩ := id hM
  refine AF.iload_n dX9_ends_0 rfl ?_
  refine AF.if_ne 15 dX9_ends_1 (by decide) (fun c1 => ?_) (fun c1 => ?_)
  · exact absurd rfl c1
  · refine AF.aload_n dX9_ends_4 rfl ?_
    refine AF.aload_n dX9_ends_5 rfl ?_
    refine AF.getfield dX9_ends_6 fl_X9_47 (by assumption) rfl ?_
    refine AF.vw dX9_ends_9 kv_X9_50 (hC) (by assumption) rfl rfl rfl (Nat.le_of_ble_eq_true rfl) (by decide) rfl (fun E F9 q => nomatch q.1) (fun v F q => ?_)
    obtain ⟨q, q2⟩ := q
    cases q
    refine AF.goto 20 dX9_ends_12 (by decide) ?_
    exact AF.ireturn dX9_ends_20 rfl ⟨rfl, q2⟩
set_option maxRecDepth 100000 in
theorem X9_ends_n (hM : MA G F m g f A) (ha : gN G ≤ m) (p : Nat) (hp : ¬ p = 0) (hp2 : p < 2 ^ 31) : AC G mX9_ends 1 0 0 [.ref m, .int (nI p)] F (MW G m (upd g 0 (nI p)) f A (some (.int 0)) F) := by
  have hC := X9_fails_ok hM ha (nI p)
  refine AC.of [some (.ref m), some (.int (nI p))] rfl (by decide) (Nat.le_of_ble_eq_true rfl) rfl ?_
  obtain ⟨h0, h1, hR⟩ := id hM
  refine AF.iload_n dX9_ends_0 rfl ?_
  refine AF.if_ne 15 dX9_ends_1 (by decide) (fun c1 => ?_) (fun c1 => ?_)
  · refine AF.aload_n dX9_ends_15 rfl ?_
    refine AF.iload_n dX9_ends_16 rfl ?_
    refine AF.vw dX9_ends_17 kv_X9_54 (hC) (by assumption) rfl rfl rfl (Nat.le_of_ble_eq_true rfl) (by decide) rfl (fun E F9 q => nomatch q.1) (fun v F q => ?_)
    obtain ⟨q, hM, q2⟩ := q
    cases q
    exact AF.ireturn dX9_ends_20 rfl ⟨rfl, hM, q2⟩
  · exact absurd c1 (nI_ne0 (by omega) hp2)

set_option maxRecDepth 100000 in
theorem X9_addJet_ok (hM : MX G F m X th) (ha : gN G ≤ m) (hI : SQ X.sg B) (x : Int32) : AC G mX9_addJet 6 0 0 [.ref m, .int x] F (MQq G m (chX X (aJet X.sg x) (pAdd X.sg.J x - 1)) (pAdd X.sg.J x - 1) (nI X.sg.J.length) F) := by
  obtain ⟨g, f, A, hM, hS, -, hr⟩ := hM
  have hp2 : (pAdd X.sg.J x - 1) < 2 ^ 31 := by unfold pAdd; split; omega; split; omega; split <;> omega
  have hR1 := X9_remembers_ok hM ha
  refine AC.of [some (.ref m), some (.int x)] rfl (by decide) (Nat.le_of_ble_eq_true rfl) rfl ?_
  obtain ⟨h0, h1, hR⟩ := hM
  refine AF.aload_n dX9_addJet_0 rfl ?_
  refine AF.vw dX9_addJet_1 kv_X9_124 (hR1) (by assumption) rfl rfl rfl (Nat.le_of_ble_eq_true rfl) (by decide) rfl (fun E F9 q => nomatch q.1) (fun v F q => ?_)
  obtain ⟨q, hM1, q1⟩ := q
  cases q
  have hC := X9_addsJet_ok hM1 ha hS hI.1 x
  generalize (pAdd X.sg.J x - 1) = p at hC hp2 ⊢
  obtain ⟨h0, h1, hR⟩ := id hM1
  refine AF.aload_n dX9_addJet_4 rfl ?_
  refine AF.aload_n dX9_addJet_5 rfl ?_
  refine AF.iload_n dX9_addJet_6 rfl ?_
  refine AF.vw dX9_addJet_7 kv_X9_127 (hC) (by assumption) rfl rfl rfl (Nat.le_of_ble_eq_true rfl) (by decide) rfl (fun E F9 q => nomatch q.1) (fun v F q => ?_)
  obtain ⟨q, q2, hy, hn⟩ := q
  cases q
  by_cases hp : p = 0
  · subst hp
    obtain ⟨f', hS', hM2⟩ := hy rfl
    have hE := X9_ends_y hM2 ha (Hs := X.hs) hr.1.1 hr.1.2.1 hr.1.2.2 (σ := X.sg) hS.cp
    obtain ⟨h0, h1, hR⟩ := hM2
    refine AF.vw dX9_addJet_10 kv_X9_130 (hE) (by assumption) rfl rfl rfl (Nat.le_of_ble_eq_true rfl) (by decide) rfl (fun E F9 q => nomatch q.1) (fun v F q => ?_)
    obtain ⟨q, h', hH, hM3, q3⟩ := q
    cases q
    exact AF.ireturn dX9_addJet_13 rfl ⟨rfl, ⟨_, f', _, hM3, hS', rfl, ⟨rfl, pushH_le hr.1.2.1, hH⟩, hr.2⟩, (q1.trans q2 (Nat.le_refl _) (Nat.le_refl _)).trans q3 (Nat.le_refl _) (Nat.le_refl _)⟩
  · have hM2 := hn hp
    have hE := X9_ends_n hM2 ha p hp hp2
    obtain ⟨h0, h1, hR⟩ := hM2
    refine AF.vw dX9_addJet_10 kv_X9_130 (hE) (by assumption) rfl rfl rfl (Nat.le_of_ble_eq_true rfl) (by decide) rfl (fun E F9 q => nomatch q.1) (fun v F q => ?_)
    obtain ⟨q, hM3, q3⟩ := q
    cases q
    refine AF.ireturn dX9_addJet_13 rfl ⟨by rw [if_neg hp], ?_, (q1.trans q2 (Nat.le_refl _) (Nat.le_refl _)).trans q3 (Nat.le_refl _) (Nat.le_refl _)⟩
    rw [chX, if_neg hp]
    exact ⟨_, f, _, hM3, hS, rfl, hr⟩
set_option maxRecDepth 100000 in
theorem X9_removeJet_ok (hM : MX G F m X th) (ha : gN G ≤ m) (hI : SQ X.sg B) (x : Int32) : AC G mX9_removeJet 6 0 0 [.ref m, .int x] F (MQq G m (chX X (aRmJ X.sg x) (if hasB X.sg.J.length x = true then 0 else 1)) (if hasB X.sg.J.length x = true then 0 else 1) (nI (sumN (rmC (cl x) X.sg.Fg) X.sg.Fg.length)) F) := by
  obtain ⟨g, f, A, hM, hS, -, hr⟩ := hM
  have hp2 : (if hasB X.sg.J.length x = true then 0 else 1) < 2 ^ 31 := by split <;> omega
  have hR1 := X9_remembers_ok hM ha
  refine AC.of [some (.ref m), some (.int x)] rfl (by decide) (Nat.le_of_ble_eq_true rfl) rfl ?_
  obtain ⟨h0, h1, hR⟩ := hM
  refine AF.aload_n dX9_removeJet_0 rfl ?_
  refine AF.vw dX9_removeJet_1 kv_X9_124 (hR1) (by assumption) rfl rfl rfl (Nat.le_of_ble_eq_true rfl) (by decide) rfl (fun E F9 q => nomatch q.1) (fun v F q => ?_)
  obtain ⟨q, hM1, q1⟩ := q
  cases q
  have hC := X9_removesJet_ok hM1 ha hS hI.1 x
  generalize (if hasB X.sg.J.length x = true then 0 else 1) = p at hC hp2 ⊢
  obtain ⟨h0, h1, hR⟩ := id hM1
  refine AF.aload_n dX9_removeJet_4 rfl ?_
  refine AF.aload_n dX9_removeJet_5 rfl ?_
  refine AF.iload_n dX9_removeJet_6 rfl ?_
  refine AF.vw dX9_removeJet_7 kv_X9_133 (hC) (by assumption) rfl rfl rfl (Nat.le_of_ble_eq_true rfl) (by decide) rfl (fun E F9 q => nomatch q.1) (fun v F q => ?_)
  obtain ⟨q, q2, hy, hn⟩ := q
  cases q
  by_cases hp : p = 0
  · subst hp
    obtain ⟨f', hS', hM2⟩ := hy rfl
    have hE := X9_ends_y hM2 ha (Hs := X.hs) hr.1.1 hr.1.2.1 hr.1.2.2 (σ := X.sg) hS.cp
    obtain ⟨h0, h1, hR⟩ := hM2
    refine AF.vw dX9_removeJet_10 kv_X9_130 (hE) (by assumption) rfl rfl rfl (Nat.le_of_ble_eq_true rfl) (by decide) rfl (fun E F9 q => nomatch q.1) (fun v F q => ?_)
    obtain ⟨q, h', hH, hM3, q3⟩ := q
    cases q
    exact AF.ireturn dX9_removeJet_13 rfl ⟨rfl, ⟨_, f', _, hM3, hS', rfl, ⟨rfl, pushH_le hr.1.2.1, hH⟩, hr.2⟩, (q1.trans q2 (Nat.le_refl _) (Nat.le_refl _)).trans q3 (Nat.le_refl _) (Nat.le_refl _)⟩
  · have hM2 := hn hp
    have hE := X9_ends_n hM2 ha p hp hp2
    obtain ⟨h0, h1, hR⟩ := hM2
    refine AF.vw dX9_removeJet_10 kv_X9_130 (hE) (by assumption) rfl rfl rfl (Nat.le_of_ble_eq_true rfl) (by decide) rfl (fun E F9 q => nomatch q.1) (fun v F q => ?_)
    obtain ⟨q, hM3, q3⟩ := q
    cases q
    refine AF.ireturn dX9_removeJet_13 rfl ⟨by rw [if_neg hp], ?_, (q1.trans q2 (Nat.le_refl _) (Nat.le_refl _)).trans q3 (Nat.le_refl _) (Nat.le_refl _)⟩
    rw [chX, if_neg hp]
    exact ⟨_, f, _, hM3, hS, rfl, hr⟩
set_option maxRecDepth 100000 in
theorem X9_setOpening_ok (hM : MX G F m X th) (ha : gN G ≤ m)  (x y : Int32) : AC G mX9_setOpening 6 0 0 [.ref m, .int x, .int y] F (MQq G m (chX X (aOpn X.sg x y) (pOpn X.sg.J.length x y)) (pOpn X.sg.J.length x y) (nI (jo X.sg.J (cl x))) F) := by
  obtain ⟨g, f, A, hM, hS, -, hr⟩ := hM
  have hp2 : (pOpn X.sg.J.length x y) < 2 ^ 31 := by unfold pOpn; split; omega; split <;> omega
  have hR1 := X9_remembers_ok hM ha
  refine AC.of [some (.ref m), some (.int x), some (.int y)] rfl (by decide) (Nat.le_of_ble_eq_true rfl) rfl ?_
  obtain ⟨h0, h1, hR⟩ := hM
  refine AF.aload_n dX9_setOpening_0 rfl ?_
  refine AF.vw dX9_setOpening_1 kv_X9_124 (hR1) (by assumption) rfl rfl rfl (Nat.le_of_ble_eq_true rfl) (by decide) rfl (fun E F9 q => nomatch q.1) (fun v F q => ?_)
  obtain ⟨q, hM1, q1⟩ := q
  cases q
  have hC := X9_opens_ok hM1 ha hS x y
  generalize (pOpn X.sg.J.length x y) = p at hC hp2 ⊢
  obtain ⟨h0, h1, hR⟩ := id hM1
  refine AF.aload_n dX9_setOpening_4 rfl ?_
  refine AF.aload_n dX9_setOpening_5 rfl ?_
  refine AF.iload_n dX9_setOpening_6 rfl ?_
  refine AF.iload_n dX9_setOpening_7 rfl ?_
  refine AF.vw dX9_setOpening_8 kv_X9_136 (hC) (by assumption) rfl rfl rfl (Nat.le_of_ble_eq_true rfl) (by decide) rfl (fun E F9 q => nomatch q.1) (fun v F q => ?_)
  obtain ⟨q, q2, hy, hn⟩ := q
  cases q
  by_cases hp : p = 0
  · subst hp
    obtain ⟨f', hS', hM2⟩ := hy rfl
    have hE := X9_ends_y hM2 ha (Hs := X.hs) hr.1.1 hr.1.2.1 hr.1.2.2 (σ := X.sg) hS.cp
    obtain ⟨h0, h1, hR⟩ := hM2
    refine AF.vw dX9_setOpening_11 kv_X9_130 (hE) (by assumption) rfl rfl rfl (Nat.le_of_ble_eq_true rfl) (by decide) rfl (fun E F9 q => nomatch q.1) (fun v F q => ?_)
    obtain ⟨q, h', hH, hM3, q3⟩ := q
    cases q
    exact AF.ireturn dX9_setOpening_14 rfl ⟨rfl, ⟨_, f', _, hM3, hS', rfl, ⟨rfl, pushH_le hr.1.2.1, hH⟩, hr.2⟩, (q1.trans q2 (Nat.le_refl _) (Nat.le_refl _)).trans q3 (Nat.le_refl _) (Nat.le_refl _)⟩
  · have hM2 := hn hp
    have hE := X9_ends_n hM2 ha p hp hp2
    obtain ⟨h0, h1, hR⟩ := hM2
    refine AF.vw dX9_setOpening_11 kv_X9_130 (hE) (by assumption) rfl rfl rfl (Nat.le_of_ble_eq_true rfl) (by decide) rfl (fun E F9 q => nomatch q.1) (fun v F q => ?_)
    obtain ⟨q, hM3, q3⟩ := q
    cases q
    refine AF.ireturn dX9_setOpening_14 rfl ⟨by rw [if_neg hp], ?_, (q1.trans q2 (Nat.le_refl _) (Nat.le_refl _)).trans q3 (Nat.le_refl _) (Nat.le_refl _)⟩
    rw [chX, if_neg hp]
    exact ⟨_, f, _, hM3, hS, rfl, hr⟩
set_option maxRecDepth 100000 in
theorem X9_setCapacity_ok (hM : MX G F m X th) (ha : gN G ≤ m)  (x : Int32) : AC G mX9_setCapacity 6 0 0 [.ref m, .int x] F (MQq G m (chX X (aCap X.sg x) (pCap x / 2)) (pCap x / 2) (nI X.sg.cap) F) := by
  obtain ⟨g, f, A, hM, hS, -, hr⟩ := hM
  have hp2 : (pCap x / 2) < 2 ^ 31 := by unfold pCap; split <;> omega
  have hR1 := X9_remembers_ok hM ha
  refine AC.of [some (.ref m), some (.int x)] rfl (by decide) (Nat.le_of_ble_eq_true rfl) rfl ?_
  obtain ⟨h0, h1, hR⟩ := hM
  refine AF.aload_n dX9_setCapacity_0 rfl ?_
  refine AF.vw dX9_setCapacity_1 kv_X9_124 (hR1) (by assumption) rfl rfl rfl (Nat.le_of_ble_eq_true rfl) (by decide) rfl (fun E F9 q => nomatch q.1) (fun v F q => ?_)
  obtain ⟨q, hM1, q1⟩ := q
  cases q
  have hC := X9_pumps_ok hM1 ha hS x
  generalize (pCap x / 2) = p at hC hp2 ⊢
  obtain ⟨h0, h1, hR⟩ := id hM1
  refine AF.aload_n dX9_setCapacity_4 rfl ?_
  refine AF.aload_n dX9_setCapacity_5 rfl ?_
  refine AF.iload_n dX9_setCapacity_6 rfl ?_
  refine AF.vw dX9_setCapacity_7 kv_X9_150 (hC) (by assumption) rfl rfl rfl (Nat.le_of_ble_eq_true rfl) (by decide) rfl (fun E F9 q => nomatch q.1) (fun v F q => ?_)
  obtain ⟨q, q2, hy, hn⟩ := q
  cases q
  by_cases hp : p = 0
  · subst hp
    obtain ⟨f', hS', hM2⟩ := hy rfl
    have hE := X9_ends_y hM2 ha (Hs := X.hs) hr.1.1 hr.1.2.1 hr.1.2.2 (σ := X.sg) hS.cp
    obtain ⟨h0, h1, hR⟩ := hM2
    refine AF.vw dX9_setCapacity_10 kv_X9_130 (hE) (by assumption) rfl rfl rfl (Nat.le_of_ble_eq_true rfl) (by decide) rfl (fun E F9 q => nomatch q.1) (fun v F q => ?_)
    obtain ⟨q, h', hH, hM3, q3⟩ := q
    cases q
    exact AF.ireturn dX9_setCapacity_13 rfl ⟨rfl, ⟨_, f', _, hM3, hS', rfl, ⟨rfl, pushH_le hr.1.2.1, hH⟩, hr.2⟩, (q1.trans q2 (Nat.le_refl _) (Nat.le_refl _)).trans q3 (Nat.le_refl _) (Nat.le_refl _)⟩
  · have hM2 := hn hp
    have hE := X9_ends_n hM2 ha p hp hp2
    obtain ⟨h0, h1, hR⟩ := hM2
    refine AF.vw dX9_setCapacity_10 kv_X9_130 (hE) (by assumption) rfl rfl rfl (Nat.le_of_ble_eq_true rfl) (by decide) rfl (fun E F9 q => nomatch q.1) (fun v F q => ?_)
    obtain ⟨q, hM3, q3⟩ := q
    cases q
    refine AF.ireturn dX9_setCapacity_13 rfl ⟨by rw [if_neg hp], ?_, (q1.trans q2 (Nat.le_refl _) (Nat.le_refl _)).trans q3 (Nat.le_refl _) (Nat.le_refl _)⟩
    rw [chX, if_neg hp]
    exact ⟨_, f, _, hM3, hS, rfl, hr⟩
set_option maxRecDepth 100000 in
theorem X9_setWind_ok (hM : MX G F m X th) (ha : gN G ≤ m)  (x : Int32) : AC G mX9_setWind 6 0 0 [.ref m, .int x] F (MQq G m (chX X (aWnd X.sg x) (pWnd x / 2)) (pWnd x / 2) (X.sg.w) F) := by
  obtain ⟨g, f, A, hM, hS, -, hr⟩ := hM
  have hp2 : (pWnd x / 2) < 2 ^ 31 := by unfold pWnd; split <;> omega
  have hR1 := X9_remembers_ok hM ha
  refine AC.of [some (.ref m), some (.int x)] rfl (by decide) (Nat.le_of_ble_eq_true rfl) rfl ?_
  obtain ⟨h0, h1, hR⟩ := hM
  refine AF.aload_n dX9_setWind_0 rfl ?_
  refine AF.vw dX9_setWind_1 kv_X9_124 (hR1) (by assumption) rfl rfl rfl (Nat.le_of_ble_eq_true rfl) (by decide) rfl (fun E F9 q => nomatch q.1) (fun v F q => ?_)
  obtain ⟨q, hM1, q1⟩ := q
  cases q
  have hC := X9_blows_ok hM1 ha hS x
  generalize (pWnd x / 2) = p at hC hp2 ⊢
  obtain ⟨h0, h1, hR⟩ := id hM1
  refine AF.aload_n dX9_setWind_4 rfl ?_
  refine AF.aload_n dX9_setWind_5 rfl ?_
  refine AF.iload_n dX9_setWind_6 rfl ?_
  refine AF.vw dX9_setWind_7 kv_X9_153 (hC) (by assumption) rfl rfl rfl (Nat.le_of_ble_eq_true rfl) (by decide) rfl (fun E F9 q => nomatch q.1) (fun v F q => ?_)
  obtain ⟨q, q2, hy, hn⟩ := q
  cases q
  by_cases hp : p = 0
  · subst hp
    obtain ⟨f', hS', hM2⟩ := hy rfl
    have hE := X9_ends_y hM2 ha (Hs := X.hs) hr.1.1 hr.1.2.1 hr.1.2.2 (σ := X.sg) hS.cp
    obtain ⟨h0, h1, hR⟩ := hM2
    refine AF.vw dX9_setWind_10 kv_X9_130 (hE) (by assumption) rfl rfl rfl (Nat.le_of_ble_eq_true rfl) (by decide) rfl (fun E F9 q => nomatch q.1) (fun v F q => ?_)
    obtain ⟨q, h', hH, hM3, q3⟩ := q
    cases q
    exact AF.ireturn dX9_setWind_13 rfl ⟨rfl, ⟨_, f', _, hM3, hS', rfl, ⟨rfl, pushH_le hr.1.2.1, hH⟩, hr.2⟩, (q1.trans q2 (Nat.le_refl _) (Nat.le_refl _)).trans q3 (Nat.le_refl _) (Nat.le_refl _)⟩
  · have hM2 := hn hp
    have hE := X9_ends_n hM2 ha p hp hp2
    obtain ⟨h0, h1, hR⟩ := hM2
    refine AF.vw dX9_setWind_10 kv_X9_130 (hE) (by assumption) rfl rfl rfl (Nat.le_of_ble_eq_true rfl) (by decide) rfl (fun E F9 q => nomatch q.1) (fun v F q => ?_)
    obtain ⟨q, hM3, q3⟩ := q
    cases q
    refine AF.ireturn dX9_setWind_13 rfl ⟨by rw [if_neg hp], ?_, (q1.trans q2 (Nat.le_refl _) (Nat.le_refl _)).trans q3 (Nat.le_refl _) (Nat.le_refl _)⟩
    rw [chX, if_neg hp]
    exact ⟨_, f, _, hM3, hS, rfl, hr⟩
set_option maxRecDepth 100000 in
theorem X9_trim_ok (hM : MX G F m X th) (ha : gN G ≤ m) (hI : SQ X.sg B) : AC G mX9_trim 6 0 0 [.ref m] F (MQq G m (chX X (aTrm X.sg) (0)) (0) (nI (trm X.sg.cap X.sg.w 100 X.sg.J).1) F) := by
  obtain ⟨g, f, A, hM, hS, -, hr⟩ := hM
  have hp2 : (0) < 2 ^ 31 := by omega
  have hR1 := X9_remembers_ok hM ha
  refine AC.of [some (.ref m)] rfl (by decide) (Nat.le_of_ble_eq_true rfl) rfl ?_
  obtain ⟨h0, h1, hR⟩ := hM
  refine AF.aload_n dX9_trim_0 rfl ?_
  refine AF.vw dX9_trim_1 kv_X9_124 (hR1) (by assumption) rfl rfl rfl (Nat.le_of_ble_eq_true rfl) (by decide) rfl (fun E F9 q => nomatch q.1) (fun v F q => ?_)
  obtain ⟨q, hM1, q1⟩ := q
  cases q
  have hC := X9_trims_ok hM1 ha hS hI.1
  obtain ⟨h0, h1, hR⟩ := id hM1
  refine AF.aload_n dX9_trim_4 rfl ?_
  refine AF.aload_n dX9_trim_5 rfl ?_
  refine AF.vw dX9_trim_6 kv_X9_156 (hC) (by assumption) rfl rfl rfl (Nat.le_of_ble_eq_true rfl) (by decide) rfl (fun E F9 q => nomatch q.1) (fun v F q => ?_)
  obtain ⟨q, q2, hy, hn⟩ := q
  cases q
  obtain ⟨f', hS', hM2⟩ := hy rfl
  have hE := X9_ends_y hM2 ha (Hs := X.hs) hr.1.1 hr.1.2.1 hr.1.2.2 (σ := X.sg) hS.cp
  obtain ⟨h0, h1, hR⟩ := hM2
  refine AF.vw dX9_trim_9 kv_X9_130 (hE) (by assumption) rfl rfl rfl (Nat.le_of_ble_eq_true rfl) (by decide) rfl (fun E F9 q => nomatch q.1) (fun v F q => ?_)
  obtain ⟨q, h', hH, hM3, q3⟩ := q
  cases q
  exact AF.ireturn dX9_trim_12 rfl ⟨rfl, ⟨_, f', _, hM3, hS', rfl, ⟨rfl, pushH_le hr.1.2.1, hH⟩, hr.2⟩, (q1.trans q2 (Nat.le_refl _) (Nat.le_refl _)).trans q3 (Nat.le_refl _) (Nat.le_refl _)⟩
set_option maxRecDepth 100000 in
theorem X9_addFigure_ok (hM : MX G F m X th) (ha : gN G ≤ m)  : AC G mX9_addFigure 6 0 0 [.ref m] F (MQq G m (chX X (aFig X.sg) (if X.sg.Fg.length < 5 then 0 else 1)) (if X.sg.Fg.length < 5 then 0 else 1) (nI X.sg.Fg.length) F) := by
  obtain ⟨g, f, A, hM, hS, -, hr⟩ := hM
  have hp2 : (if X.sg.Fg.length < 5 then 0 else 1) < 2 ^ 31 := by split <;> omega
  have hR1 := X9_remembers_ok hM ha
  refine AC.of [some (.ref m)] rfl (by decide) (Nat.le_of_ble_eq_true rfl) rfl ?_
  obtain ⟨h0, h1, hR⟩ := hM
  refine AF.aload_n dX9_addFigure_0 rfl ?_
  refine AF.vw dX9_addFigure_1 kv_X9_124 (hR1) (by assumption) rfl rfl rfl (Nat.le_of_ble_eq_true rfl) (by decide) rfl (fun E F9 q => nomatch q.1) (fun v F q => ?_)
  obtain ⟨q, hM1, q1⟩ := q
  cases q
  have hC := X9_addsFigure_ok hM1 ha hS
  generalize (if X.sg.Fg.length < 5 then 0 else 1) = p at hC hp2 ⊢
  obtain ⟨h0, h1, hR⟩ := id hM1
  refine AF.aload_n dX9_addFigure_4 rfl ?_
  refine AF.aload_n dX9_addFigure_5 rfl ?_
  refine AF.vw dX9_addFigure_6 kv_X9_159 (hC) (by assumption) rfl rfl rfl (Nat.le_of_ble_eq_true rfl) (by decide) rfl (fun E F9 q => nomatch q.1) (fun v F q => ?_)
  obtain ⟨q, q2, hy, hn⟩ := q
  cases q
  by_cases hp : p = 0
  · subst hp
    obtain ⟨f', hS', hM2⟩ := hy rfl
    have hE := X9_ends_y hM2 ha (Hs := X.hs) hr.1.1 hr.1.2.1 hr.1.2.2 (σ := X.sg) hS.cp
    obtain ⟨h0, h1, hR⟩ := hM2
    refine AF.vw dX9_addFigure_9 kv_X9_130 (hE) (by assumption) rfl rfl rfl (Nat.le_of_ble_eq_true rfl) (by decide) rfl (fun E F9 q => nomatch q.1) (fun v F q => ?_)
    obtain ⟨q, h', hH, hM3, q3⟩ := q
    cases q
    exact AF.ireturn dX9_addFigure_12 rfl ⟨rfl, ⟨_, f', _, hM3, hS', rfl, ⟨rfl, pushH_le hr.1.2.1, hH⟩, hr.2⟩, (q1.trans q2 (Nat.le_refl _) (Nat.le_refl _)).trans q3 (Nat.le_refl _) (Nat.le_refl _)⟩
  · have hM2 := hn hp
    have hE := X9_ends_n hM2 ha p hp hp2
    obtain ⟨h0, h1, hR⟩ := hM2
    refine AF.vw dX9_addFigure_9 kv_X9_130 (hE) (by assumption) rfl rfl rfl (Nat.le_of_ble_eq_true rfl) (by decide) rfl (fun E F9 q => nomatch q.1) (fun v F q => ?_)
    obtain ⟨q, hM3, q3⟩ := q
    cases q
    refine AF.ireturn dX9_addFigure_12 rfl ⟨by rw [if_neg hp], ?_, (q1.trans q2 (Nat.le_refl _) (Nat.le_refl _)).trans q3 (Nat.le_refl _) (Nat.le_refl _)⟩
    rw [chX, if_neg hp]
    exact ⟨_, f, _, hM3, hS, rfl, hr⟩
set_option maxRecDepth 100000 in
theorem X9_removeFigure_ok (hM : MX G F m X th) (ha : gN G ≤ m) (hI : SQ X.sg B) (x : Int32) : AC G mX9_removeFigure 6 0 0 [.ref m, .int x] F (MQq G m (chX X (aRmF X.sg x) (if pDrF X.sg x = 4 then 2 else pDrF X.sg x)) (if pDrF X.sg x = 4 then 2 else pDrF X.sg x) (nI (fg X.sg.Fg (cl x)).length) F) := by
  obtain ⟨g, f, A, hM, hS, -, hr⟩ := hM
  have hp2 : (if pDrF X.sg x = 4 then 2 else pDrF X.sg x) < 2 ^ 31 := by split; omega; unfold pDrF; split; omega; split <;> omega
  have hR1 := X9_remembers_ok hM ha
  refine AC.of [some (.ref m), some (.int x)] rfl (by decide) (Nat.le_of_ble_eq_true rfl) rfl ?_
  obtain ⟨h0, h1, hR⟩ := hM
  refine AF.aload_n dX9_removeFigure_0 rfl ?_
  refine AF.vw dX9_removeFigure_1 kv_X9_124 (hR1) (by assumption) rfl rfl rfl (Nat.le_of_ble_eq_true rfl) (by decide) rfl (fun E F9 q => nomatch q.1) (fun v F q => ?_)
  obtain ⟨q, hM1, q1⟩ := q
  cases q
  have hC := X9_removesFigure_ok hM1 ha hS hI.1 x
  generalize (if pDrF X.sg x = 4 then 2 else pDrF X.sg x) = p at hC hp2 ⊢
  obtain ⟨h0, h1, hR⟩ := id hM1
  refine AF.aload_n dX9_removeFigure_4 rfl ?_
  refine AF.aload_n dX9_removeFigure_5 rfl ?_
  refine AF.iload_n dX9_removeFigure_6 rfl ?_
  refine AF.vw dX9_removeFigure_7 kv_X9_162 (hC) (by assumption) rfl rfl rfl (Nat.le_of_ble_eq_true rfl) (by decide) rfl (fun E F9 q => nomatch q.1) (fun v F q => ?_)
  obtain ⟨q, q2, hy, hn⟩ := q
  cases q
  by_cases hp : p = 0
  · subst hp
    obtain ⟨f', hS', hM2⟩ := hy rfl
    have hE := X9_ends_y hM2 ha (Hs := X.hs) hr.1.1 hr.1.2.1 hr.1.2.2 (σ := X.sg) hS.cp
    obtain ⟨h0, h1, hR⟩ := hM2
    refine AF.vw dX9_removeFigure_10 kv_X9_130 (hE) (by assumption) rfl rfl rfl (Nat.le_of_ble_eq_true rfl) (by decide) rfl (fun E F9 q => nomatch q.1) (fun v F q => ?_)
    obtain ⟨q, h', hH, hM3, q3⟩ := q
    cases q
    exact AF.ireturn dX9_removeFigure_13 rfl ⟨rfl, ⟨_, f', _, hM3, hS', rfl, ⟨rfl, pushH_le hr.1.2.1, hH⟩, hr.2⟩, (q1.trans q2 (Nat.le_refl _) (Nat.le_refl _)).trans q3 (Nat.le_refl _) (Nat.le_refl _)⟩
  · have hM2 := hn hp
    have hE := X9_ends_n hM2 ha p hp hp2
    obtain ⟨h0, h1, hR⟩ := hM2
    refine AF.vw dX9_removeFigure_10 kv_X9_130 (hE) (by assumption) rfl rfl rfl (Nat.le_of_ble_eq_true rfl) (by decide) rfl (fun E F9 q => nomatch q.1) (fun v F q => ?_)
    obtain ⟨q, hM3, q3⟩ := q
    cases q
    refine AF.ireturn dX9_removeFigure_13 rfl ⟨by rw [if_neg hp], ?_, (q1.trans q2 (Nat.le_refl _) (Nat.le_refl _)).trans q3 (Nat.le_refl _) (Nat.le_refl _)⟩
    rw [chX, if_neg hp]
    exact ⟨_, f, _, hM3, hS, rfl, hr⟩
set_option maxRecDepth 100000 in
theorem X9_addStep_ok (hM : MX G F m X th) (ha : gN G ≤ m)  (x y z u : Int32) : AC G mX9_addStep 6 0 0 [.ref m, .int x, .int y, .int z, .int u] F (MQq G m (chX X (aStp X.sg x y z u) (if pStp X.sg x y z u = 4 then 3 else pStp X.sg x y z u)) (if pStp X.sg x y z u = 4 then 3 else pStp X.sg x y z u) (nI ((fg X.sg.Fg (cl x)).length + 1)) F) := by
  obtain ⟨g, f, A, hM, hS, -, hr⟩ := hM
  have hp2 : (if pStp X.sg x y z u = 4 then 3 else pStp X.sg x y z u) < 2 ^ 31 := by split; omega; unfold pStp; split; omega; split; omega; split <;> omega
  have hR1 := X9_remembers_ok hM ha
  refine AC.of [some (.ref m), some (.int x), some (.int y), some (.int z), some (.int u)] rfl (by decide) (Nat.le_of_ble_eq_true rfl) rfl ?_
  obtain ⟨h0, h1, hR⟩ := hM
  refine AF.aload_n dX9_addStep_0 rfl ?_
  refine AF.vw dX9_addStep_1 kv_X9_124 (hR1) (by assumption) rfl rfl rfl (Nat.le_of_ble_eq_true rfl) (by decide) rfl (fun E F9 q => nomatch q.1) (fun v F q => ?_)
  obtain ⟨q, hM1, q1⟩ := q
  cases q
  have hC := X9_addsStep_ok hM1 ha hS x y z u
  generalize (if pStp X.sg x y z u = 4 then 3 else pStp X.sg x y z u) = p at hC hp2 ⊢
  obtain ⟨h0, h1, hR⟩ := id hM1
  refine AF.aload_n dX9_addStep_4 rfl ?_
  refine AF.aload_n dX9_addStep_5 rfl ?_
  refine AF.iload_n dX9_addStep_6 rfl ?_
  refine AF.iload_n dX9_addStep_7 rfl ?_
  refine AF.iload_n dX9_addStep_8 rfl ?_
  refine AF.iload dX9_addStep_9 rfl ?_
  refine AF.vw dX9_addStep_11 kv_X9_165 (hC) (by assumption) rfl rfl rfl (Nat.le_of_ble_eq_true rfl) (by decide) rfl (fun E F9 q => nomatch q.1) (fun v F q => ?_)
  obtain ⟨q, q2, hy, hn⟩ := q
  cases q
  by_cases hp : p = 0
  · subst hp
    obtain ⟨f', hS', hM2⟩ := hy rfl
    have hE := X9_ends_y hM2 ha (Hs := X.hs) hr.1.1 hr.1.2.1 hr.1.2.2 (σ := X.sg) hS.cp
    obtain ⟨h0, h1, hR⟩ := hM2
    refine AF.vw dX9_addStep_14 kv_X9_130 (hE) (by assumption) rfl rfl rfl (Nat.le_of_ble_eq_true rfl) (by decide) rfl (fun E F9 q => nomatch q.1) (fun v F q => ?_)
    obtain ⟨q, h', hH, hM3, q3⟩ := q
    cases q
    exact AF.ireturn dX9_addStep_17 rfl ⟨rfl, ⟨_, f', _, hM3, hS', rfl, ⟨rfl, pushH_le hr.1.2.1, hH⟩, hr.2⟩, (q1.trans q2 (Nat.le_refl _) (Nat.le_refl _)).trans q3 (Nat.le_refl _) (Nat.le_refl _)⟩
  · have hM2 := hn hp
    have hE := X9_ends_n hM2 ha p hp hp2
    obtain ⟨h0, h1, hR⟩ := hM2
    refine AF.vw dX9_addStep_14 kv_X9_130 (hE) (by assumption) rfl rfl rfl (Nat.le_of_ble_eq_true rfl) (by decide) rfl (fun E F9 q => nomatch q.1) (fun v F q => ?_)
    obtain ⟨q, hM3, q3⟩ := q
    cases q
    refine AF.ireturn dX9_addStep_17 rfl ⟨by rw [if_neg hp], ?_, (q1.trans q2 (Nat.le_refl _) (Nat.le_refl _)).trans q3 (Nat.le_refl _) (Nat.le_refl _)⟩
    rw [chX, if_neg hp]
    exact ⟨_, f, _, hM3, hS, rfl, hr⟩
set_option maxRecDepth 100000 in
theorem X9_removeStep_ok (hM : MX G F m X th) (ha : gN G ≤ m)  (x y : Int32) : AC G mX9_removeStep 6 0 0 [.ref m, .int x, .int y] F (MQq G m (chX X (aRmS X.sg x y) (if hsB X.sg.Fg x y = true then 0 else 1)) (if hsB X.sg.Fg x y = true then 0 else 1) (nI ((fg X.sg.Fg (cl x)).length - 1)) F) := by
  obtain ⟨g, f, A, hM, hS, -, hr⟩ := hM
  have hp2 : (if hsB X.sg.Fg x y = true then 0 else 1) < 2 ^ 31 := by split <;> omega
  have hR1 := X9_remembers_ok hM ha
  refine AC.of [some (.ref m), some (.int x), some (.int y)] rfl (by decide) (Nat.le_of_ble_eq_true rfl) rfl ?_
  obtain ⟨h0, h1, hR⟩ := hM
  refine AF.aload_n dX9_removeStep_0 rfl ?_
  refine AF.vw dX9_removeStep_1 kv_X9_124 (hR1) (by assumption) rfl rfl rfl (Nat.le_of_ble_eq_true rfl) (by decide) rfl (fun E F9 q => nomatch q.1) (fun v F q => ?_)
  obtain ⟨q, hM1, q1⟩ := q
  cases q
  have hC := X9_removesStep_ok hM1 ha hS x y
  generalize (if hsB X.sg.Fg x y = true then 0 else 1) = p at hC hp2 ⊢
  obtain ⟨h0, h1, hR⟩ := id hM1
  refine AF.aload_n dX9_removeStep_4 rfl ?_
  refine AF.aload_n dX9_removeStep_5 rfl ?_
  refine AF.iload_n dX9_removeStep_6 rfl ?_
  refine AF.iload_n dX9_removeStep_7 rfl ?_
  refine AF.vw dX9_removeStep_8 kv_X9_169 (hC) (by assumption) rfl rfl rfl (Nat.le_of_ble_eq_true rfl) (by decide) rfl (fun E F9 q => nomatch q.1) (fun v F q => ?_)
  obtain ⟨q, q2, hy, hn⟩ := q
  cases q
  by_cases hp : p = 0
  · subst hp
    obtain ⟨f', hS', hM2⟩ := hy rfl
    have hE := X9_ends_y hM2 ha (Hs := X.hs) hr.1.1 hr.1.2.1 hr.1.2.2 (σ := X.sg) hS.cp
    obtain ⟨h0, h1, hR⟩ := hM2
    refine AF.vw dX9_removeStep_11 kv_X9_130 (hE) (by assumption) rfl rfl rfl (Nat.le_of_ble_eq_true rfl) (by decide) rfl (fun E F9 q => nomatch q.1) (fun v F q => ?_)
    obtain ⟨q, h', hH, hM3, q3⟩ := q
    cases q
    exact AF.ireturn dX9_removeStep_14 rfl ⟨rfl, ⟨_, f', _, hM3, hS', rfl, ⟨rfl, pushH_le hr.1.2.1, hH⟩, hr.2⟩, (q1.trans q2 (Nat.le_refl _) (Nat.le_refl _)).trans q3 (Nat.le_refl _) (Nat.le_refl _)⟩
  · have hM2 := hn hp
    have hE := X9_ends_n hM2 ha p hp hp2
    obtain ⟨h0, h1, hR⟩ := hM2
    refine AF.vw dX9_removeStep_11 kv_X9_130 (hE) (by assumption) rfl rfl rfl (Nat.le_of_ble_eq_true rfl) (by decide) rfl (fun E F9 q => nomatch q.1) (fun v F q => ?_)
    obtain ⟨q, hM3, q3⟩ := q
    cases q
    refine AF.ireturn dX9_removeStep_14 rfl ⟨by rw [if_neg hp], ?_, (q1.trans q2 (Nat.le_refl _) (Nat.le_refl _)).trans q3 (Nat.le_refl _) (Nat.le_refl _)⟩
    rw [chX, if_neg hp]
    exact ⟨_, f, _, hM3, hS, rfl, hr⟩
set_option maxRecDepth 100000 in
theorem X9_play_ok (hM : MX G F m X th) (ha : gN G ≤ m)  (x y : Int32) : AC G mX9_play 6 0 0 [.ref m, .int x, .int y] F (MQq G m (chX X (aPly X.sg x y) (if pPly X.sg x y = 4 then 3 else pPly X.sg x y)) (if pPly X.sg x y = 4 then 3 else pPly X.sg x y) (nI (X.sg.bt + cl y)) F) := by
  obtain ⟨g, f, A, hM, hS, -, hr⟩ := hM
  have hp2 : (if pPly X.sg x y = 4 then 3 else pPly X.sg x y) < 2 ^ 31 := by split; omega; unfold pPly; split; omega; split; omega; split <;> omega
  have hR1 := X9_remembers_ok hM ha
  refine AC.of [some (.ref m), some (.int x), some (.int y)] rfl (by decide) (Nat.le_of_ble_eq_true rfl) rfl ?_
  obtain ⟨h0, h1, hR⟩ := hM
  refine AF.aload_n dX9_play_0 rfl ?_
  refine AF.vw dX9_play_1 kv_X9_124 (hR1) (by assumption) rfl rfl rfl (Nat.le_of_ble_eq_true rfl) (by decide) rfl (fun E F9 q => nomatch q.1) (fun v F q => ?_)
  obtain ⟨q, hM1, q1⟩ := q
  cases q
  have hC := X9_plays_ok hM1 ha hS x y
  generalize (if pPly X.sg x y = 4 then 3 else pPly X.sg x y) = p at hC hp2 ⊢
  obtain ⟨h0, h1, hR⟩ := id hM1
  refine AF.aload_n dX9_play_4 rfl ?_
  refine AF.aload_n dX9_play_5 rfl ?_
  refine AF.iload_n dX9_play_6 rfl ?_
  refine AF.iload_n dX9_play_7 rfl ?_
  refine AF.vw dX9_play_8 kv_X9_178 (hC) (by assumption) rfl rfl rfl (Nat.le_of_ble_eq_true rfl) (by decide) rfl (fun E F9 q => nomatch q.1) (fun v F q => ?_)
  obtain ⟨q, q2, hy, hn⟩ := q
  cases q
  by_cases hp : p = 0
  · subst hp
    obtain ⟨f', hS', hM2⟩ := hy rfl
    have hE := X9_ends_y hM2 ha (Hs := X.hs) hr.1.1 hr.1.2.1 hr.1.2.2 (σ := X.sg) hS.cp
    obtain ⟨h0, h1, hR⟩ := hM2
    refine AF.vw dX9_play_11 kv_X9_130 (hE) (by assumption) rfl rfl rfl (Nat.le_of_ble_eq_true rfl) (by decide) rfl (fun E F9 q => nomatch q.1) (fun v F q => ?_)
    obtain ⟨q, h', hH, hM3, q3⟩ := q
    cases q
    exact AF.ireturn dX9_play_14 rfl ⟨rfl, ⟨_, f', _, hM3, hS', rfl, ⟨rfl, pushH_le hr.1.2.1, hH⟩, hr.2⟩, (q1.trans q2 (Nat.le_refl _) (Nat.le_refl _)).trans q3 (Nat.le_refl _) (Nat.le_refl _)⟩
  · have hM2 := hn hp
    have hE := X9_ends_n hM2 ha p hp hp2
    obtain ⟨h0, h1, hR⟩ := hM2
    refine AF.vw dX9_play_11 kv_X9_130 (hE) (by assumption) rfl rfl rfl (Nat.le_of_ble_eq_true rfl) (by decide) rfl (fun E F9 q => nomatch q.1) (fun v F q => ?_)
    obtain ⟨q, hM3, q3⟩ := q
    cases q
    refine AF.ireturn dX9_play_14 rfl ⟨by rw [if_neg hp], ?_, (q1.trans q2 (Nat.le_refl _) (Nat.le_refl _)).trans q3 (Nat.le_refl _) (Nat.le_refl _)⟩
    rw [chX, if_neg hp]
    exact ⟨_, f, _, hM3, hS, rfl, hr⟩
set_option maxRecDepth 100000 in
theorem X9_cancel_ok (hM : MX G F m X th) (ha : gN G ≤ m)  (x : Int32) : AC G mX9_cancel 6 0 0 [.ref m, .int x] F (MQq G m (chX X (aCan X.sg x) (if hasB X.sg.E.length x = true then 0 else 1)) (if hasB X.sg.E.length x = true then 0 else 1) (nI (en X.sg.E (cl x)).2) F) := by
  obtain ⟨g, f, A, hM, hS, -, hr⟩ := hM
  have hp2 : (if hasB X.sg.E.length x = true then 0 else 1) < 2 ^ 31 := by split <;> omega
  have hR1 := X9_remembers_ok hM ha
  refine AC.of [some (.ref m), some (.int x)] rfl (by decide) (Nat.le_of_ble_eq_true rfl) rfl ?_
  obtain ⟨h0, h1, hR⟩ := hM
  refine AF.aload_n dX9_cancel_0 rfl ?_
  refine AF.vw dX9_cancel_1 kv_X9_124 (hR1) (by assumption) rfl rfl rfl (Nat.le_of_ble_eq_true rfl) (by decide) rfl (fun E F9 q => nomatch q.1) (fun v F q => ?_)
  obtain ⟨q, hM1, q1⟩ := q
  cases q
  have hC := X9_cancels_ok hM1 ha hS x
  generalize (if hasB X.sg.E.length x = true then 0 else 1) = p at hC hp2 ⊢
  obtain ⟨h0, h1, hR⟩ := id hM1
  refine AF.aload_n dX9_cancel_4 rfl ?_
  refine AF.aload_n dX9_cancel_5 rfl ?_
  refine AF.iload_n dX9_cancel_6 rfl ?_
  refine AF.vw dX9_cancel_7 kv_X9_181 (hC) (by assumption) rfl rfl rfl (Nat.le_of_ble_eq_true rfl) (by decide) rfl (fun E F9 q => nomatch q.1) (fun v F q => ?_)
  obtain ⟨q, q2, hy, hn⟩ := q
  cases q
  by_cases hp : p = 0
  · subst hp
    obtain ⟨f', hS', hM2⟩ := hy rfl
    have hE := X9_ends_y hM2 ha (Hs := X.hs) hr.1.1 hr.1.2.1 hr.1.2.2 (σ := X.sg) hS.cp
    obtain ⟨h0, h1, hR⟩ := hM2
    refine AF.vw dX9_cancel_10 kv_X9_130 (hE) (by assumption) rfl rfl rfl (Nat.le_of_ble_eq_true rfl) (by decide) rfl (fun E F9 q => nomatch q.1) (fun v F q => ?_)
    obtain ⟨q, h', hH, hM3, q3⟩ := q
    cases q
    exact AF.ireturn dX9_cancel_13 rfl ⟨rfl, ⟨_, f', _, hM3, hS', rfl, ⟨rfl, pushH_le hr.1.2.1, hH⟩, hr.2⟩, (q1.trans q2 (Nat.le_refl _) (Nat.le_refl _)).trans q3 (Nat.le_refl _) (Nat.le_refl _)⟩
  · have hM2 := hn hp
    have hE := X9_ends_n hM2 ha p hp hp2
    obtain ⟨h0, h1, hR⟩ := hM2
    refine AF.vw dX9_cancel_10 kv_X9_130 (hE) (by assumption) rfl rfl rfl (Nat.le_of_ble_eq_true rfl) (by decide) rfl (fun E F9 q => nomatch q.1) (fun v F q => ?_)
    obtain ⟨q, hM3, q3⟩ := q
    cases q
    refine AF.ireturn dX9_cancel_13 rfl ⟨by rw [if_neg hp], ?_, (q1.trans q2 (Nat.le_refl _) (Nat.le_refl _)).trans q3 (Nat.le_refl _) (Nat.le_refl _)⟩
    rw [chX, if_neg hp]
    exact ⟨_, f, _, hM3, hS, rfl, hr⟩
set_option maxRecDepth 100000 in
theorem X9_pass_ok (hM : MX G F m X th) (ha : gN G ≤ m) (hI : SQ X.sg B) (hB : B + 40 ≤ 2 ^ 21) (x : Int32) : AC G mX9_pass 6 0 0 [.ref m, .int x] F (MQq G m (chX X (nxN X.sg (cl x)) (pPas x / 2)) (pPas x / 2) (nI (nxF X.sg (cl x))) F) := by
  obtain ⟨g, f, A, hM, hS, -, hr⟩ := hM
  have hp2 : (pPas x / 2) < 2 ^ 31 := by unfold pPas; split <;> omega
  have hR1 := X9_remembers_ok hM ha
  refine AC.of [some (.ref m), some (.int x)] rfl (by decide) (Nat.le_of_ble_eq_true rfl) rfl ?_
  obtain ⟨h0, h1, hR⟩ := hM
  refine AF.aload_n dX9_pass_0 rfl ?_
  refine AF.vw dX9_pass_1 kv_X9_124 (hR1) (by assumption) rfl rfl rfl (Nat.le_of_ble_eq_true rfl) (by decide) rfl (fun E F9 q => nomatch q.1) (fun v F q => ?_)
  obtain ⟨q, hM1, q1⟩ := q
  cases q
  have hC := X9_passes_ok hM1 ha hS hI.1 hB x
  generalize (pPas x / 2) = p at hC hp2 ⊢
  obtain ⟨h0, h1, hR⟩ := id hM1
  refine AF.aload_n dX9_pass_4 rfl ?_
  refine AF.aload_n dX9_pass_5 rfl ?_
  refine AF.iload_n dX9_pass_6 rfl ?_
  refine AF.vw dX9_pass_7 kv_X9_184 (hC) (by assumption) rfl rfl rfl (Nat.le_of_ble_eq_true rfl) (by decide) rfl (fun E F9 q => nomatch q.1) (fun v F q => ?_)
  obtain ⟨q, q2, hy, hn⟩ := q
  cases q
  by_cases hp : p = 0
  · subst hp
    obtain ⟨f', hS', hM2⟩ := hy rfl
    have hE := X9_ends_y hM2 ha (Hs := X.hs) hr.1.1 hr.1.2.1 hr.1.2.2 (σ := X.sg) hS.cp
    obtain ⟨h0, h1, hR⟩ := hM2
    refine AF.vw dX9_pass_10 kv_X9_130 (hE) (by assumption) rfl rfl rfl (Nat.le_of_ble_eq_true rfl) (by decide) rfl (fun E F9 q => nomatch q.1) (fun v F q => ?_)
    obtain ⟨q, h', hH, hM3, q3⟩ := q
    cases q
    exact AF.ireturn dX9_pass_13 rfl ⟨rfl, ⟨_, f', _, hM3, hS', rfl, ⟨rfl, pushH_le hr.1.2.1, hH⟩, hr.2⟩, (q1.trans q2 (Nat.le_refl _) (Nat.le_refl _)).trans q3 (Nat.le_refl _) (Nat.le_refl _)⟩
  · have hM2 := hn hp
    have hE := X9_ends_n hM2 ha p hp hp2
    obtain ⟨h0, h1, hR⟩ := hM2
    refine AF.vw dX9_pass_10 kv_X9_130 (hE) (by assumption) rfl rfl rfl (Nat.le_of_ble_eq_true rfl) (by decide) rfl (fun E F9 q => nomatch q.1) (fun v F q => ?_)
    obtain ⟨q, hM3, q3⟩ := q
    cases q
    refine AF.ireturn dX9_pass_13 rfl ⟨by rw [if_neg hp], ?_, (q1.trans q2 (Nat.le_refl _) (Nat.le_refl _)).trans q3 (Nat.le_refl _) (Nat.le_refl _)⟩
    rw [chX, if_neg hp]
    exact ⟨_, f, _, hM3, hS, rfl, hr⟩
end

