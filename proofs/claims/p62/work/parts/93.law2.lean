/-! What every run keeps: the bounds of the whole state, call by call. -/
theorem and63 (x : Int32) : ∃ k, k < 64 ∧ x &&& 63 = nI k := by
  refine ⟨(x &&& 63).toBitVec.toNat, ?_, ?_⟩
  · rw [Int32.toBitVec_and, BitVec.toNat_and]
    exact Nat.lt_of_le_of_lt Nat.and_le_right (by decide)
  · apply Int32.toBitVec_inj.1
    show _ = BitVec.ofNat 32 _
    simp
theorem ch_lt (x : Int32) : (x.toUInt32 % 65536).toInt32.toUInt32 < 65536 := by
  show x.toUInt32 % 65536 < 65536
  exact UInt32.mod_lt _ (by decide)
theorem pushH_mem {Hs : List Sg} {σ τ : Sg} (h : τ ∈ pushH Hs σ) : τ ∈ Hs ∨ τ = σ := by
  unfold pushH at h
  rcases List.mem_append.mp h with h | h
  · split at h
    · exact Or.inl (List.mem_of_mem_eraseIdx h)
    · exact Or.inl h
  · exact Or.inr (List.mem_singleton.mp h)
theorem hget_mem {Hs : List Sg} {i : Nat} (h : i < Hs.length) : hget Hs i ∈ Hs := by
  rw [hget, List.getD_eq_getElem?_getD, List.getElem?_eq_getElem h]; exact List.getElem_mem h
section
variable {X : XS} {B B' : Nat} {σ : Sg} {p : Nat}
theorem XI.mono (h : XI X B) (hb : B ≤ B') (h2 : B' ≤ 2 ^ 21) : XI X B' := by
  obtain ⟨i1, i2, i3, i4⟩ := h
  exact ⟨i1.mono hb h2, fun τ e => (i2 τ e).mono hb h2, fun τ e => (i3 τ e).mono hb h2, i4⟩
theorem XI.ch (h : XI X B) (hs : p = 0 → SQ σ B') (hb : B ≤ B') (h2 : B' ≤ 2 ^ 21) : XI (chX X σ p) B' := by
  unfold chX
  split
  · rename_i q
    obtain ⟨i1, i2, i3, i4, i5⟩ := h.mono hb h2
    refine ⟨hs q, i2, fun τ e => ?_, pushH_le i4, i5⟩
    rcases pushH_mem e with e | e
    · exact i3 τ e
    · rw [e]; exact i1
  · exact h.mono hb h2
theorem XI.un (h : XI X B) : XI (unX X) B := by
  unfold unX
  split
  · exact h
  · obtain ⟨i1, i2, i3, i4, i5⟩ := h
    refine ⟨i3 _ (hget_mem (by omega)), i2, fun τ e => i3 τ (List.mem_of_mem_take e), ?_, i5⟩
    show (X.hs.take _).length ≤ 8
    rw [List.length_take]; omega
theorem XI.sav (h : XI X B) : XI (svX X) B := ⟨h.1, fun τ e => Option.some.inj e ▸ h.1, h.2.2⟩
theorem XI.rest (h : XI X B) : XI (reX X) B := by
  unfold reX
  split
  · exact h
  · rename_i τ e
    obtain ⟨i1, i2, i3, i4, i5⟩ := h
    exact ⟨i2 τ e, i2, fun τ e => absurd e List.not_mem_nil, Nat.zero_le _, i5⟩
theorem XI.fd (h : XI X B) (c : Int32) (hc : c.toUInt32 < 65536) : XI (fdX X c) B := by
  unfold fdX
  split
  · exact h
  · obtain ⟨i1, i2, i3, i4, ⟨i5, i6⟩, i7⟩ := h
    have e5 : (X.tx ++ [c]).length = X.tx.length + 1 := by simp
    refine ⟨i1, i2, i3, i4, ⟨?_, fun i hi => ?_⟩, i7⟩
    · show (X.tx ++ [c]).length ≤ 60
      omega
    · have hi : i < (X.tx ++ [c]).length := hi
      show ((X.tx ++ [c]).getD i 0).toUInt32 < 65536
      rw [gd_app]
      split
      · exact hc
      · exact i6 i (by omega)
/-- signs of less than 128 -/
def AS (T : List Int32) : Prop := ∀ i, i < T.length → ∃ c, c < 128 ∧ T.getD i 0 = nI c
theorem AS.app {A C : List Int32} (h : AS A) (k : AS C) : AS (A ++ C) := fun i hi => by
  rw [List.length_append] at hi
  by_cases e : i < A.length
  · rw [gd_apL e]; exact h i e
  · obtain ⟨j, rfl⟩ : ∃ j, i = A.length + j := ⟨i - A.length, by omega⟩
    rw [gd_apR]; exact k j (by omega)
theorem AS.nil : AS [] := fun i hi => absurd hi (Nat.not_lt_zero _)
theorem AS.one {c : Nat} (hc : c < 128) : AS [nI c] := fun i hi => by
  obtain rfl : i = 0 := by simp at hi; omega
  exact ⟨c, hc, rfl⟩
theorem AS.num {n : Nat} (hn : n < 100) : AS (wrN n) := by
  unfold wrN
  split
  · exact (AS.one (c := 48 + n / 10) (by omega)).app (AS.one (c := 48 + n % 10) (by omega))
  · exact AS.one (by omega)
theorem AS.fig {L : List Sp} (h : ∀ k, k < L.length → (g3 L k).1 < 100 ∧ (g3 L k).2.1 < 100 ∧ (g3 L k).2.2 < 100) : ∀ k, k ≤ L.length → AS (wrF L k)
  | 0, _ => AS.nil
  | k + 1, hk => by
    obtain ⟨h1, h2, h3⟩ := h k (by omega)
    simp only [wrF, wrS]
    refine ((AS.fig h k (by omega)).app ?_).app (((((AS.num h1).app (AS.one (by omega))).app (AS.num h2)).app (AS.one (by omega))).app (AS.num h3))
    split
    · exact AS.one (by omega)
    · exact AS.nil
theorem XI.wr (h : XI X B) (i : Nat) (hi : i < X.sg.Fg.length) : XI (wrX X i) B := by
  obtain ⟨i1, i2, i3, i4, i5, -, -⟩ := h
  obtain ⟨⟨j1, j2, j3, j4, j5⟩, j6, j7, j8, j9, j10⟩ := id i1
  have hw := wrF_le (L := fg X.sg.Fg i) (fg X.sg.Fg i).length
  have l8 := j9 i hi
  refine ⟨i1, i2, i3, i4, i5, ?_, ?_⟩
  · show (wrF _ _).length ≤ 72
    omega
  · exact AS.fig (fun k hk => by have := j3 i k hk; omega) _ (Nat.le_refl _)
theorem XI.ex (h : XI X B) (hB : B + 2480 ≤ 2 ^ 21) : XI (exX X) (B + 2480) := by
  obtain ⟨i1, i2, i3, i4, i5, i6⟩ := h.mono (B' := B + 2480) (by omega) hB
  have i0 := h.1
  have hnil : ([] : List Int32).length ≤ 60 ∧ ∀ i, i < ([] : List Int32).length → (([] : List Int32).getD i 0).toUInt32 < 65536 := ⟨Nat.zero_le _, fun i hi => absurd hi (Nat.not_lt_zero _)⟩
  unfold exX
  split
  · exact ⟨i1, i2, i3, i4, hnil, i6⟩
  · split
    · exact ⟨i1, i2, i3, i4, hnil, i6⟩
    · rename_i e
      have hl : (exP X).2.2.length ≤ 61 := (psT_place (T := X.tx) 61 0 (Nat.zero_le _)).2
      refine ⟨?_, i2, fun τ e => ?_, pushH_le i4, hnil, i6⟩
      · refine SQ.mono (i0.dK (exP X).2.2.length (by omega) (fun i hi => ?_)) (by omega) (by omega)
        unfold fL fnd at e
        rw [List.find?_range_eq_none] at e
        have := e i hi
        simpa using this
      · rcases pushH_mem e with e | e
        · exact i3 τ e
        · rw [e]; exact i1
theorem XI.x0 : XI X0 0 := by
  refine ⟨⟨⟨fun j => ⟨Nat.zero_le _, Nat.zero_le _⟩, by decide, fun i k hk => absurd hk (Nat.not_lt_zero _), fun e he => absurd he (Nat.not_lt_zero _), by decide, by decide, by decide, by decide⟩, fun i j hi => absurd hi (Nat.not_lt_zero _), by decide, by decide, fun i hi => absurd hi (Nat.not_lt_zero _), by decide⟩, fun τ e => (by cases (show (none : Option Sg) = some τ from e)), fun τ e => absurd e List.not_mem_nil, by decide, ⟨by decide, fun i hi => absurd hi (Nat.not_lt_zero _)⟩, by decide, fun i hi => absurd hi (Nat.not_lt_zero _)⟩
end
abbrev SCR (G : GA) (b L : Nat) (xs : Nat → Int32) : Prop := va_T .int b L (fun j => .int (xs j)) (gA G) G.2.1 G.2.1.heap

