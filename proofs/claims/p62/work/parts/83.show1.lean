/-! The show: its picture. -/
/-- the ring of the stages before: hs's k-th stands at place (hn + 8 - length + k) mod 8 -/
def RG (G : GA) (F : AH) (c : Nat) (Hs : List Sg) (hn : Nat) : Prop := (hn < 8 ∧ Hs.length ≤ 8) ∧ ∀ i, i < 8 → ∃ τ, SA G F (c + 43 + 11 * i) τ ∧ ∀ k, k < Hs.length → i = (hn + 8 - Hs.length + k) % 8 → τ = hget Hs k
def CX0 (G : GA) (F : AH) (c hn : Nat) (X : XS) (hf : Nat → Option Nat) : Prop := F.2 c = some (.inr (5, [.ref (c + 1), .ref (c + 12), .ref (c + 23), .int (bI X.sv.isSome), .ref (c + 34), .int (nI hn), .int (nI X.hs.length), .ref (c + 35), .ref (c + 38), .ref (c + 41), .int X.er, .int X.fa])) ∧ F.2 (c + 34) = some (.inl (gC G 4, 8, .inr (.inr (.inr (.inr hf)))))
def TSA (G : GA) (F : AH) (b : Nat) (T : List Int32) : Prop := ∃ pl cc cm ns, TS G F b T pl cc cm ns
def BAA (G : GA) (F : AH) (c bv : Nat) (T : List Int32) : Prop := (∃ cap, BA G F (c + 41) bv T cap) ∧ (bv = c + 42 ∨ c + 131 ≤ bv)
def CX (G : GA) (F : AH) (c bv : Nat) (X : XS) : Prop := ∃ hn hf, CX0 G F c hn X hf ∧ (∀ i, i < 8 → hf i = some (c + 43 + 11 * i)) ∧ SA G F (c + 1) X.sg ∧ (∃ τ, SA G F (c + 12) τ) ∧ (∃ τ, SA G F (c + 23) τ ∧ ∀ σ, X.sv = some σ → τ = σ) ∧ RG G F c X.hs hn ∧ LSA G F (c + 35) ∧ TSA G F (c + 38) X.tx ∧ BAA G F c bv X.ou
theorem RG.kept {G : GA} {F F' : AH} {c hn : Nat} {Hs : List Sg} (h : RG G F c Hs hn) (e : ∀ q, c + 43 ≤ q → q < c + 131 → F'.2 q = F.2 q) : RG G F' c Hs hn := ⟨h.1, fun i hi => by
  obtain ⟨τ, h1, h2⟩ := h.2 i hi
  exact ⟨τ, h1.kept (fun q q1 q2 => e q (by omega) (by omega)), h2⟩⟩
theorem TSA.kept {G : GA} {F F' : AH} {b : Nat} {T : List Int32} (h : TSA G F b T) (e : ∀ q, b ≤ q → q < b + 3 → F'.2 q = F.2 q) : TSA G F' b T := by
  obtain ⟨pl, cc, cm, ns, h⟩ := h
  exact ⟨pl, cc, cm, ns, h.kept e⟩
theorem BAA.kept {G : GA} {F F' : AH} {c bv : Nat} {T : List Int32} (h : BAA G F c bv T) (e1 : F'.2 (c + 41) = F.2 (c + 41)) (e2 : F'.2 bv = F.2 bv) (e3 : F.1 ≤ F'.1) : BAA G F' c bv T := by
  obtain ⟨⟨cap, ml, a, ⟨h0, h1⟩, h2, h3, h4, h5⟩, h6⟩ := h
  exact ⟨⟨cap, ml, a, ⟨e1.trans h0, e2.trans h1⟩, h2, h3, h4, Nat.lt_of_lt_of_le h5 e3⟩, h6⟩
theorem CX.kept {G : GA} {F F' : AH} {c bv : Nat} {X : XS} (h : CX G F c bv X) (e : ∀ q, c ≤ q → q < c + 131 → F'.2 q = F.2 q) (e2 : F'.2 bv = F.2 bv) (e3 : F.1 ≤ F'.1) : CX G F' c bv X := by
  obtain ⟨hn, hf, ⟨h0, h1⟩, h2, h3, ⟨τ, h4⟩, ⟨τ', h5, h6⟩, h7, h8, h9, h10⟩ := h
  exact ⟨hn, hf, ⟨(e c (by omega) (by omega)).trans h0, (e (c + 34) (by omega) (by omega)).trans h1⟩, h2, h3.kept (fun q q1 q2 => e q (by omega) (by omega)), ⟨τ, h4.kept (fun q q1 q2 => e q (by omega) (by omega))⟩, ⟨τ', h5.kept (fun q q1 q2 => e q (by omega) (by omega)), h6⟩, h7.kept (fun q q1 q2 => e q (by omega) (by omega)), h8.kept (fun q q1 q2 => e q (by omega) (by omega)), h9.kept (fun q q1 q2 => e q (by omega) (by omega)), h10.kept (e (c + 41) (by omega) (by omega)) e2 e3⟩

