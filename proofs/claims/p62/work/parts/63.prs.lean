/-! Reading a text: what its commands are, how far it is well formed. -/
abbrev PS : Type := Bool × Nat × List Int32
abbrev PS.ok (s : PS) : Bool := s.1
abbrev PS.at (s : PS) : Nat := s.2.1
abbrev PS.ns (s : PS) : List Int32 := s.2.2
def hereT (T : List Int32) (i : Nat) : Int32 := if i < T.length then T.getD i 0 else -1
def dgt (x : Int32) : Bool := inB x 48 57
/-- one sign c -/
def chR (T : List Int32) (c : Int32) (s : PS) : PS := if s.1 = true ∧ hereT T s.2.1 = c then (true, s.2.1 + 1, s.2.2) else (false, s.2.1, s.2.2)
/-- how many digits from p on, at most the first number; what they say, behind a -/
def dgc (T : List Int32) : Nat → Nat → Nat
  | 0, _ => 0
  | k + 1, p => if dgt (hereT T p) = true then dgc T k (p + 1) + 1 else 0
def nvl (T : List Int32) : Nat → Nat → Nat → Nat
  | 0, _, a => a
  | k + 1, p, a => if dgt (hereT T p) = true then nvl T k (p + 1) (10 * a + (cl (hereT T p) - 48)) else a
def nuR (T : List Int32) (most : Nat) (s : PS) : PS := if s.1 = true ∧ 0 < dgc T most s.2.1 then (true, s.2.1 + dgc T most s.2.1, s.2.2 ++ [nI (nvl T most s.2.1 0)]) else (false, s.2.1, s.2.2)
def sgR (T : List Int32) (s : PS) : PS := if s.1 = true ∧ hereT T s.2.1 = 43 then (true, s.2.1 + 1, s.2.2 ++ [1]) else if s.1 = true ∧ hereT T s.2.1 = 45 then (true, s.2.1 + 1, s.2.2 ++ [-1]) else (false, s.2.1, s.2.2)
def paR (T : List Int32) (c : Int32) (s : PS) : PS := if c = 78 then nuR T 3 s else if c = 68 then nuR T 1 s else if c = 83 then sgR T s else chR T c s
/-- the first j parts of a pattern; the first j signs of a word -/
def ruR (T : List Int32) (tx : String) (s : PS) : Nat → PS
  | 0 => s
  | j + 1 => paR T (sby tx j) (ruR T tx s j)
def saR (T : List Int32) (tx : String) (s : PS) : Nat → PS
  | 0 => s
  | j + 1 => chR T (sby tx j) (saR T tx s j)
def prC (T : List Int32) (p c : Nat) : PS := ruR T (pats.getD c "") (true, p, []) (pats.getD c "").toList.length
/-- which command may stand at p -/
def cix (T : List Int32) (p : Nat) : Option Nat :=
  if hereT T p = 106 then some 0 else if hereT T p = 111 then some 1 else if hereT T p = 112 then (if hereT T (p + 1) = 108 then some 7 else if hereT T (p + 1) = 97 then some 8 else some 2) else if hereT T p = 119 then some 3 else if hereT T p = 116 then some 4 else if hereT T p = 102 then some 5 else if hereT T p = 115 then some 6 else none
def cmS (T : List Int32) (p : Nat) : PS := match cix T p with
  | some c => prC T p c
  | none => (false, p, [])
def cmC (T : List Int32) (p : Nat) : Nat := (cix T p).getD 0
/-- the commands from p on: is it well formed, how far, the commands -/
def psT (T : List Int32) : Nat → Nat → Bool × Nat × List (Nat × List Int32)
  | 0, p => (false, p, [])
  | n + 1, p => if (cmS T p).1 = false then (false, (cmS T p).2.1, []) else if hereT T (cmS T p).2.1 = 59 then ((psT T n ((cmS T p).2.1 + 1)).1, (psT T n ((cmS T p).2.1 + 1)).2.1, (cmC T p, (cmS T p).2.2) :: (psT T n ((cmS T p).2.1 + 1)).2.2) else (decide ((cmS T p).2.1 = T.length), (cmS T p).2.1, [(cmC T p, (cmS T p).2.2)])
theorem hereT_lt {T : List Int32} {p : Nat} (h : ¬ hereT T p = -1) : p < T.length := by
  unfold hereT at h
  split at h
  · assumption
  · exact absurd rfl h
theorem hereT_in {T : List Int32} {p : Nat} (h : p < T.length) : hereT T p = T.getD p 0 := if_pos h
theorem dgt_here {T : List Int32} {p : Nat} (h : dgt (hereT T p) = true) : p < T.length ∧ ∃ c, 48 ≤ c ∧ c ≤ 57 ∧ hereT T p = nI c := by
  have h1 := inB_t h
  refine ⟨hereT_lt (fun q => ?_), ?_⟩
  · rw [q] at h1; exact h1.1 (by decide)
  · obtain ⟨e1, e2⟩ := rng (x := hereT T p) (n := 57) (by omega) (fun q => h1.1 (Int32.lt_trans q (by decide))) h1.2
    refine ⟨cl (hereT T p), ?_, e1, e2⟩
    have h2 := h1.1
    rw [e2] at h2
    have : ¬ (nI (cl (hereT T p)) < nI 48) := h2
    rw [nI_ltI (by omega) (by omega)] at this
    omega
theorem dgc_le {T : List Int32} : ∀ k p, p ≤ T.length → dgc T k p ≤ k ∧ p + dgc T k p ≤ T.length
  | 0, p, h => ⟨Nat.le_refl _, h⟩
  | k + 1, p, h => by
    simp only [dgc]
    split
    · rename_i q
      have h1 := (dgt_here q).1
      have := dgc_le (T := T) k (p + 1) (by omega)
      omega
    · omega
theorem nvl_le {T : List Int32} : ∀ k p a b, a < b → nvl T k p a < 10 ^ k * b
  | 0, p, a, b, h => by simp [nvl]; exact h
  | k + 1, p, a, b, h => by
    simp only [nvl]
    split
    · rename_i q
      obtain ⟨-, c, c1, c2, e⟩ := dgt_here q
      have := nvl_le (T := T) k (p + 1) (10 * a + (cl (hereT T p) - 48)) (10 * b) (by rw [e, cl_nI (by omega)]; omega)
      rw [Nat.pow_succ, Nat.mul_assoc]
      exact this
    · exact Nat.lt_of_lt_of_le h (Nat.le_mul_of_pos_left _ (Nat.pow_pos (by decide)))
theorem chR_le {T : List Int32} {c : Int32} {s : PS} (h : s.2.1 ≤ T.length) (hc : ¬ c = -1) : (chR T c s).2.1 ≤ T.length ∧ s.2.1 ≤ (chR T c s).2.1 := by
  unfold chR
  split
  · rename_i q
    have := hereT_lt (T := T) (p := s.2.1) (by rw [q.2]; exact hc)
    exact ⟨this, Nat.le_succ _⟩
  · exact ⟨h, Nat.le_refl _⟩
theorem nuR_le {T : List Int32} {k : Nat} {s : PS} (h : s.2.1 ≤ T.length) : (nuR T k s).2.1 ≤ T.length ∧ s.2.1 ≤ (nuR T k s).2.1 := by
  unfold nuR
  split
  · exact ⟨(dgc_le k _ h).2, Nat.le_add_right _ _⟩
  · exact ⟨h, Nat.le_refl _⟩
theorem sgR_le {T : List Int32} {s : PS} (h : s.2.1 ≤ T.length) : (sgR T s).2.1 ≤ T.length ∧ s.2.1 ≤ (sgR T s).2.1 := by
  unfold sgR
  split
  · rename_i q
    have := hereT_lt (T := T) (p := s.2.1) (by rw [q.2]; decide)
    exact ⟨this, Nat.le_succ _⟩
  · split
    · rename_i q
      have := hereT_lt (T := T) (p := s.2.1) (by rw [q.2]; decide)
      exact ⟨this, Nat.le_succ _⟩
    · exact ⟨h, Nat.le_refl _⟩
theorem paR_le {T : List Int32} {c : Int32} {s : PS} (h : s.2.1 ≤ T.length) (hc : ¬ c = -1) : (paR T c s).2.1 ≤ T.length ∧ s.2.1 ≤ (paR T c s).2.1 := by
  unfold paR
  split
  · exact nuR_le h
  · split
    · exact nuR_le h
    · split
      · exact sgR_le h
      · exact chR_le h hc
/-- a text of plain signs -/
def TXok (tx : String) : Prop := tx.toList.length < 100 ∧ ∀ j, j < tx.toList.length → (tx.toList.getD j ' ').toNat < 128
theorem sby_ne {tx : String} (h : TXok tx) {j : Nat} (hj : j < tx.toList.length) : ¬ sby tx j = -1 := by
  rw [show sby tx j = nI (tx.toList.getD j ' ').toNat from rfl]
  intro q
  have h1 := h.2 j hj
  have h2 := nI_toInt (n := (tx.toList.getD j ' ').toNat) (by omega)
  rw [q] at h2
  have : (-1 : Int32).toInt = -1 := by decide
  omega
theorem saR_le {T : List Int32} {tx : String} (hx : TXok tx) {s : PS} (h : s.2.1 ≤ T.length) : ∀ j, j ≤ tx.toList.length → (saR T tx s j).2.1 ≤ T.length ∧ s.2.1 ≤ (saR T tx s j).2.1
  | 0, _ => ⟨h, Nat.le_refl _⟩
  | j + 1, hj => by
    have h1 := saR_le hx h j (by omega)
    have h2 := chR_le (T := T) (s := saR T tx s j) h1.1 (sby_ne hx (j := j) (by omega))
    exact ⟨h2.1, Nat.le_trans h1.2 h2.2⟩
theorem ruR_le {T : List Int32} {tx : String} (hx : TXok tx) {s : PS} (h : s.2.1 ≤ T.length) : ∀ j, j ≤ tx.toList.length → (ruR T tx s j).2.1 ≤ T.length ∧ s.2.1 ≤ (ruR T tx s j).2.1
  | 0, _ => ⟨h, Nat.le_refl _⟩
  | j + 1, hj => by
    have h1 := ruR_le hx h j (by omega)
    have h2 := paR_le (T := T) (s := ruR T tx s j) h1.1 (sby_ne hx (j := j) (by omega))
    exact ⟨h2.1, Nat.le_trans h1.2 h2.2⟩
theorem chR_f {T : List Int32} {c : Int32} {s : PS} (h : s.1 = false) : chR T c s = s := by
  obtain ⟨b, p, l⟩ := s
  cases h
  simp [chR]
theorem nuR_f {T : List Int32} {k : Nat} {s : PS} (h : s.1 = false) : nuR T k s = s := by
  obtain ⟨b, p, l⟩ := s
  cases h
  simp [nuR]
theorem sgR_f {T : List Int32} {s : PS} (h : s.1 = false) : sgR T s = s := by
  obtain ⟨b, p, l⟩ := s
  cases h
  simp [sgR]
theorem paR_f {T : List Int32} {c : Int32} {s : PS} (h : s.1 = false) : paR T c s = s := by
  unfold paR
  split
  · exact nuR_f h
  · split
    · exact nuR_f h
    · split
      · exact sgR_f h
      · exact chR_f h
theorem saR_f {T : List Int32} {tx : String} {s : PS} {k : Nat} (h : (saR T tx s k).1 = false) : ∀ j, saR T tx s (k + j) = saR T tx s k
  | 0 => rfl
  | j + 1 => by
    have h1 := saR_f h j
    show chR T _ (saR T tx s (k + j)) = _
    rw [h1]; exact chR_f h
theorem ruR_f {T : List Int32} {tx : String} {s : PS} {k : Nat} (h : (ruR T tx s k).1 = false) : ∀ j, ruR T tx s (k + j) = ruR T tx s k
  | 0 => rfl
  | j + 1 => by
    have h1 := ruR_f h j
    show paR T _ (ruR T tx s (k + j)) = _
    rw [h1]; exact paR_f h
theorem TX_pats : ∀ c, c < 9 → TXok (pats.getD c "") := by
  intro c hc
  have : ∀ c, c < 9 → (pats.getD c "").toList.length < 100 ∧ ∀ j, j < (pats.getD c "").toList.length → ((pats.getD c "").toList.getD j ' ').toNat < 128 := by decide +kernel
  exact this c hc
theorem prC_le {T : List Int32} {p c : Nat} (hc : c < 9) (h : p ≤ T.length) : (prC T p c).2.1 ≤ T.length ∧ p ≤ (prC T p c).2.1 := ruR_le (TX_pats c hc) (s := (true, p, [])) h _ (Nat.le_refl _)
theorem cix_lt {T : List Int32} {p c : Nat} (h : cix T p = some c) : c < 9 := by
  unfold cix at h
  repeat (first | (split at h) | (cases h; decide) | (cases h))
theorem cmS_le {T : List Int32} {p : Nat} (h : p ≤ T.length) : (cmS T p).2.1 ≤ T.length ∧ p ≤ (cmS T p).2.1 := by
  unfold cmS
  split
  · rename_i c e; exact prC_le (cix_lt e) h
  · exact ⟨h, Nat.le_refl _⟩
theorem saR_at {T : List Int32} {tx : String} : ∀ j (s : PS) l, (saR T tx (s.1, s.2.1, l) j).1 = (saR T tx s j).1 ∧ (saR T tx (s.1, s.2.1, l) j).2.1 = (saR T tx s j).2.1
  | 0, _, _ => ⟨rfl, rfl⟩
  | j + 1, s, l => by
    obtain ⟨h1, h2⟩ := saR_at j s l
    show (chR T (sby tx j) (saR T tx (s.1, s.2.1, l) j)).1 = (chR T (sby tx j) (saR T tx s j)).1 ∧ (chR T (sby tx j) (saR T tx (s.1, s.2.1, l) j)).2.1 = (chR T (sby tx j) (saR T tx s j)).2.1
    unfold chR
    rw [h1, h2]
    by_cases q : (saR T tx s j).1 = true ∧ hereT T (saR T tx s j).2.1 = sby tx j
    · rw [if_pos q, if_pos q]; exact ⟨rfl, rfl⟩
    · rw [if_neg q, if_neg q]; exact ⟨rfl, rfl⟩
/-- signs that stand for themselves -/
def PLN (tx : String) (j : Nat) : Prop := ¬ sby tx j = 78 ∧ ¬ sby tx j = 68 ∧ ¬ sby tx j = 83
theorem paR_ch {T : List Int32} {tx : String} {j : Nat} {s : PS} (h : PLN tx j) : paR T (sby tx j) s = chR T (sby tx j) s := by
  unfold paR
  rw [if_neg h.1, if_neg h.2.1, if_neg h.2.2]

