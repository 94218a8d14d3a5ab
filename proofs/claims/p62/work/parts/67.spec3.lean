/-! Commands: what each asks, what it makes, what a text of them makes. -/
abbrev ar (ns : List Int32) (i : Nat) : Int32 := ns.getD i 0
def pCm (σ : Sg) (c : Nat) (ns : List Int32) : Nat := match c with
  | 0 => pAdd σ.J (ar ns 0)
  | 1 => pOpn σ.J.length (ar ns 0) (ar ns 1)
  | 2 => pCap (ar ns 0)
  | 3 => pWnd (ar ns 0)
  | 4 => 0
  | 5 => if σ.Fg.length < 5 then 0 else 4
  | 6 => pStp σ (ar ns 0) (ar ns 1) (ar ns 2) (ar ns 3)
  | 7 => pPly σ (ar ns 0) (ar ns 1)
  | _ => pPas (ar ns 0)
def qCm (σ : Sg) (c : Nat) (ns : List Int32) : Nat := match c with
  | 0 => pAdd σ.J (ar ns 0) - 1
  | 1 => pOpn σ.J.length (ar ns 0) (ar ns 1)
  | 2 => pCap (ar ns 0) / 2
  | 3 => pWnd (ar ns 0) / 2
  | 4 => 0
  | 5 => if σ.Fg.length < 5 then 0 else 1
  | 6 => if pStp σ (ar ns 0) (ar ns 1) (ar ns 2) (ar ns 3) = 4 then 3 else pStp σ (ar ns 0) (ar ns 1) (ar ns 2) (ar ns 3)
  | 7 => if pPly σ (ar ns 0) (ar ns 1) = 4 then 3 else pPly σ (ar ns 0) (ar ns 1)
  | _ => pPas (ar ns 0) / 2
def aCm (σ : Sg) (c : Nat) (ns : List Int32) : Sg := match c with
  | 0 => aJet σ (ar ns 0)
  | 1 => aOpn σ (ar ns 0) (ar ns 1)
  | 2 => aCap σ (ar ns 0)
  | 3 => aWnd σ (ar ns 0)
  | 4 => aTrm σ
  | 5 => aFig σ
  | 6 => aStp σ (ar ns 0) (ar ns 1) (ar ns 2) (ar ns 3)
  | 7 => aPly σ (ar ns 0) (ar ns 1)
  | _ => nxN σ (cl (ar ns 0))
theorem pAdd_v {J : List Jt} {x : Int32} : pAdd J x = 0 ∨ pAdd J x = 2 ∨ pAdd J x = 3 ∨ pAdd J x = 4 := by unfold pAdd; split; simp; split; simp; split <;> simp
theorem pCap_v {x : Int32} : pCap x = 0 ∨ pCap x = 2 := by unfold pCap; split <;> simp
theorem pWnd_v {x : Int32} : pWnd x = 0 ∨ pWnd x = 2 := by unfold pWnd; split <;> simp
theorem pPas_v {x : Int32} : pPas x = 0 ∨ pPas x = 2 := by unfold pPas; split <;> simp
theorem pStp_v {σ : Sg} {x y z u : Int32} : pStp σ x y z u = 0 ∨ pStp σ x y z u = 1 ∨ pStp σ x y z u = 2 ∨ pStp σ x y z u = 4 := by unfold pStp; split; simp; split; simp; split <;> simp
theorem pPly_v {σ : Sg} {x y : Int32} : pPly σ x y = 0 ∨ pPly σ x y = 1 ∨ pPly σ x y = 2 ∨ pPly σ x y = 4 := by unfold pPly; split; simp; split; simp; split <;> simp
theorem pOpn_v {n : Nat} {x y : Int32} : pOpn n x y = 0 ∨ pOpn n x y = 1 ∨ pOpn n x y = 2 := by unfold pOpn; split; simp; split <;> simp
theorem pDrF_v {σ : Sg} {x : Int32} : pDrF σ x = 0 ∨ pDrF σ x = 1 ∨ pDrF σ x = 4 := by unfold pDrF; split; simp; split <;> simp
theorem qCm_0 {σ : Sg} {c : Nat} {ns : List Int32} : qCm σ c ns = 0 ↔ pCm σ c ns = 0 := by
  unfold qCm pCm
  split
  · have := pAdd_v (J := σ.J) (x := ar ns 0); omega
  · exact Iff.rfl
  · have := pCap_v (x := ar ns 0); omega
  · have := pWnd_v (x := ar ns 0); omega
  · exact Iff.rfl
  · split <;> simp
  · have := pStp_v (σ := σ) (x := ar ns 0) (y := ar ns 1) (z := ar ns 2) (u := ar ns 3); split <;> omega
  · have := pPly_v (σ := σ) (x := ar ns 0) (y := ar ns 1); split <;> omega
  · have := pPas_v (x := ar ns 0); omega
theorem qCm_lt {σ : Sg} {c : Nat} {ns : List Int32} : qCm σ c ns < 10 := by
  unfold qCm
  split
  · have := pAdd_v (J := σ.J) (x := ar ns 0); omega
  · have := pOpn_v (n := σ.J.length) (x := ar ns 0) (y := ar ns 1); omega
  · have := pCap_v (x := ar ns 0); omega
  · have := pWnd_v (x := ar ns 0); omega
  · omega
  · split <;> omega
  · have := pStp_v (σ := σ) (x := ar ns 0) (y := ar ns 1) (z := ar ns 2) (u := ar ns 3); split <;> omega
  · have := pPly_v (σ := σ) (x := ar ns 0) (y := ar ns 1); split <;> omega
  · have := pPas_v (x := ar ns 0); omega
theorem pPas_0 {x : Int32} (h : pPas x = 0) : 1 ≤ cl x ∧ cl x ≤ 40 ∧ x = nI (cl x) := by
  unfold pPas at h
  split at h
  · cases h
  · rename_i q
    exact rng1 (x := x) (n := 40) (by omega) (fun z => q (Or.inl z)) (fun z => q (Or.inr z))
theorem SQ.cm {σ : Sg} {B c : Nat} {ns : List Int32} (h : SQ σ B) (hB : B + 40 ≤ 2 ^ 21) (hp : pCm σ c ns = 0) : SQ (aCm σ c ns) (B + 40) := by
  unfold pCm at hp
  unfold aCm
  split at hp
  · exact (h.jet hp).1.mono (by omega) hB
  · exact (h.opn hp).1.mono (by omega) hB
  · exact (h.capq hp).1.mono (by omega) hB
  · exact (h.wnd (x := ar ns 0)).mono (by omega) hB
  · exact h.trim.mono (by omega) hB
  · split at hp
    · rename_i q; exact (h.fig q).mono (by omega) hB
    · cases hp
  · exact (h.stp hp).1.mono (by omega) hB
  · exact (h.ply hp).1.mono (by omega) hB
  · have h1 := (pPas_0 hp).2.1
    exact (h.nxN _ (by omega)).mono (by omega) hB
def cmd (L : List (Nat × List Int32)) (k : Nat) : Nat × List Int32 := L.getD k (0, [])
abbrev cmA (L : List (Nat × List Int32)) (k : Nat) : List Int32 := tdA (cmd L k).1 (cmd L k).2
/-- the stage after the first k commands; the first command that is refused -/
def dK (σ : Sg) (L : List (Nat × List Int32)) : Nat → Sg
  | 0 => σ
  | k + 1 => aCm (dK σ L k) (cmd L k).1 (cmA L k)
def bad (σ : Sg) (L : List (Nat × List Int32)) (k : Nat) : Bool := !decide (pCm (dK σ L k) (cmd L k).1 (cmA L k) = 0)
def fL (σ : Sg) (L : List (Nat × List Int32)) : Option Nat := fnd (bad σ L) L.length
theorem bad_f {σ : Sg} {L : List (Nat × List Int32)} {k : Nat} (h : bad σ L k = false) : pCm (dK σ L k) (cmd L k).1 (cmA L k) = 0 := by
  unfold bad at h; simpa using h
theorem bad_t {σ : Sg} {L : List (Nat × List Int32)} {k : Nat} (h : ¬ pCm (dK σ L k) (cmd L k).1 (cmA L k) = 0) : bad σ L k = true := by
  unfold bad; simpa using h
theorem SQ.dK {σ : Sg} {B : Nat} {L : List (Nat × List Int32)} (h : SQ σ B) : ∀ k, B + 40 * k ≤ 2 ^ 21 → (∀ i, i < k → bad σ L i = false) → SQ (dK σ L k) (B + 40 * k)
  | 0, _, _ => h
  | k + 1, hk, hb => by
    have h1 := SQ.dK h k (by omega) (fun i hi => hb i (by omega))
    exact (h1.cm (by omega) (bad_f (hb k (by omega)))).mono (by omega) hk
def nlen (c : Nat) : Nat := [1, 2, 1, 2, 0, 0, 4, 2, 1].getD c 0
theorem ruR_mono {T : List Int32} {tx : String} (hx : TXok tx) {s : PS} (h : s.2.1 ≤ T.length) {i : Nat} : ∀ j, i + j ≤ tx.toList.length → (ruR T tx s i).2.1 ≤ (ruR T tx s (i + j)).2.1
  | 0, _ => Nat.le_refl _
  | j + 1, hj => by
    have h1 := ruR_mono hx h (i := i) j (by omega)
    have h2 := ruR_le hx h (i + j) (by omega)
    have h3 := paR_le (T := T) (s := ruR T tx s (i + j)) h2.1 (sby_ne hx (j := i + j) (by omega))
    exact Nat.le_trans h1 h3.2
theorem ruR_adv {T : List Int32} {tx : String} (hx : TXok tx) {p j : Nat} (hp : p ≤ T.length) (hpl : PLN tx 0) (hj : j + 1 ≤ tx.toList.length) (h : (ruR T tx (true, p, []) (j + 1)).1 = true) : p < (ruR T tx (true, p, []) (j + 1)).2.1 := by
  have h1 : (ruR T tx (true, p, []) 1).1 = true := by
    cases q : (ruR T tx (true, p, []) 1).1 with
    | true => rfl
    | false =>
      have := ruR_f q j
      rw [show 1 + j = j + 1 by omega] at this
      rw [this, q] at h; cases h
  have h2 := ruR_mono (T := T) hx (s := (true, p, [])) hp (i := 1) j (by omega)
  rw [show 1 + j = j + 1 by omega] at h2
  have h3 : ruR T tx (true, p, []) 1 = chR T (sby tx 0) (true, p, []) := paR_ch hpl
  rw [h3] at h1 h2
  unfold chR at h1 h2
  split at h1
  · rename_i q; rw [if_pos q] at h2; exact h2
  · cases h1
theorem pat_fst : ∀ c, c < 9 → (∃ n, (pats.getD c "").toList.length = n + 1) ∧ PLN (pats.getD c "") 0 := by
  have : ∀ c, c < 9 → (pats.getD c "").toList.length = (pats.getD c "").toList.length - 1 + 1 ∧ PLN (pats.getD c "") 0 := by unfold PLN; decide +kernel
  exact fun c hc => ⟨⟨_, (this c hc).1⟩, (this c hc).2⟩
theorem cmS_adv {T : List Int32} {p : Nat} (hp : p ≤ T.length) (h : (cmS T p).1 = true) : p < (cmS T p).2.1 ∧ cmC T p < 9 ∧ (cmS T p).2.2.length = nlen (cmC T p) := by
  unfold cmS at h ⊢
  unfold cmC
  split at h
  · rename_i c e
    have hc := cix_lt e
    rw [e]
    obtain ⟨⟨n, hn⟩, hpl⟩ := pat_fst c hc
    refine ⟨?_, hc, ?_⟩
    · unfold prC at h ⊢
      rw [hn] at h ⊢
      exact ruR_adv (TX_pats c hc) hp hpl (by omega) h
    · show (prC T p c).2.2.length = nlen c
      have h : (prC T p c).1 = true := h
      rcases (by omega : c = 0 ∨ c = 1 ∨ c = 2 ∨ c = 3 ∨ c = 4 ∨ c = 5 ∨ c = 6 ∨ c = 7 ∨ c = 8) with rfl | rfl | rfl | rfl | rfl | rfl | rfl | rfl | rfl
      · rw [prC_0] at h ⊢; obtain ⟨o1, o2⟩ := nuR_ok h; rw [o2, (saR_ok _ o1).2]; rfl
      · rw [prC_1] at h ⊢; obtain ⟨o1, o2⟩ := nuR_ok h; obtain ⟨o3, o4⟩ := saR_ok _ o1; obtain ⟨o5, o6⟩ := nuR_ok o3; rw [o2, o4, o6, (saR_ok _ o5).2]; rfl
      · rw [prC_2] at h ⊢; obtain ⟨o1, o2⟩ := nuR_ok h; rw [o2, (saR_ok _ o1).2]; rfl
      · rw [prC_3] at h ⊢
        obtain ⟨o1, o2⟩ := nuR_ok h
        rw [o2]
        unfold sgR at o1 ⊢
        split at o1
        · rename_i q; rw [if_pos q]; rw [(saR_ok _ q.1).2]; rfl
        · rename_i q
          split at o1
          · rename_i q2; rw [if_neg q, if_pos q2, (saR_ok _ q2.1).2]; rfl
          · cases o1
      · rw [prC_4] at h ⊢; rw [(saR_ok _ h).2]; rfl
      · rw [prC_5] at h ⊢; rw [(saR_ok _ h).2]; rfl
      · rw [prC_6] at h ⊢; obtain ⟨o1, o2⟩ := nuR_ok h; obtain ⟨o3, o4⟩ := saR_ok _ o1; obtain ⟨o5, o6⟩ := nuR_ok o3; obtain ⟨o7, o8⟩ := saR_ok _ o5; obtain ⟨o9, o10⟩ := nuR_ok o7; obtain ⟨o11, o12⟩ := saR_ok _ o9; obtain ⟨o13, o14⟩ := nuR_ok o11; rw [o2, o4, o6, o8, o10, o12, o14, (saR_ok _ o13).2]; rfl
      · rw [prC_7] at h ⊢; obtain ⟨o1, o2⟩ := nuR_ok h; obtain ⟨o3, o4⟩ := saR_ok _ o1; obtain ⟨o5, o6⟩ := nuR_ok o3; rw [o2, o4, o6, (saR_ok _ o5).2]; rfl
      · rw [prC_8] at h ⊢; obtain ⟨o1, o2⟩ := nuR_ok h; rw [o2, (saR_ok _ o1).2]; rfl
  · cases h
/-- what a text makes of it all: 0, or what is thrown; what is left -/
def exP (X : XS) : Bool × Nat × List (Nat × List Int32) := psT X.tx 61 0
def exC (X : XS) : Nat := if (exP X).1 = false then 1 else if (fL X.sg (exP X).2.2).isSome = true then 2 else 0
def exX (X : XS) : XS :=
  if (exP X).1 = false then (X.sg, X.sv, X.hs, [], X.ou, nI (exP X).2.1, X.fa)
  else match fL X.sg (exP X).2.2 with
    | some k => (X.sg, X.sv, X.hs, [], X.ou, X.er, nI k)
    | none => (dK X.sg (exP X).2.2 (exP X).2.2.length, X.sv, pushH X.hs X.sg, [], X.ou, X.er, X.fa)

