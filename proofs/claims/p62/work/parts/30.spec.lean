/-! The fountain's state in numbers and lists; what the loops compute. -/
abbrev Jt : Type := Nat × Nat
abbrev Sp : Type := Nat × Nat × Nat
abbrev En : Type := Nat × Nat
def jp (J : List Jt) (j : Nat) : Nat := (J.getD j (0, 0)).1
def jo (J : List Jt) (j : Nat) : Nat := (J.getD j (0, 0)).2
def sumN (g : Nat → Nat) : Nat → Nat
  | 0 => 0
  | n + 1 => sumN g n + g n
def cntB (P : Nat → Bool) : Nat → Nat
  | 0 => 0
  | n + 1 => cntB P n + (if P n = true then 1 else 0)
/-- the first of them that is better than all before it, from 0 on -/
def bst (P : Nat → Nat → Bool) : Nat → Nat
  | 0 => 0
  | n + 1 => if P n (bst P n) = true then n else bst P n
def fnd (P : Nat → Bool) (n : Nat) : Option Nat := (List.range n).find? P
theorem fnd_some {P : Nat → Bool} {n j : Nat} (h : P j = true) (hj : j < n) (hb : ∀ i, i < j → P i = false) : fnd P n = some j := by
  unfold fnd
  rw [List.find?_range_eq_some]
  exact ⟨h, List.mem_range.mpr hj, fun i hi => by simp [hb i hi]⟩
theorem fnd_none {P : Nat → Bool} {n : Nat} (hb : ∀ i, i < n → P i = false) : fnd P n = none := by
  unfold fnd
  rw [List.find?_range_eq_none]
  exact fun i hi => by simp [hb i hi]
theorem cntB_le {P : Nat → Bool} : ∀ n, cntB P n ≤ n
  | 0 => Nat.le_refl _
  | n + 1 => by
    have := cntB_le (P := P) n
    simp only [cntB]
    split <;> omega
theorem bst_lt {P : Nat → Nat → Bool} : ∀ n, 0 < n → bst P n < n
  | 0, h => absurd h (by omega)
  | n + 1, _ => by
    simp only [bst]
    split
    · omega
    · cases n with
      | zero => simp [bst]
      | succ n => have := bst_lt (P := P) (n + 1) (by omega); omega
theorem sumN_le {g : Nat → Nat} {b : Nat} (h : ∀ j, g j ≤ b) : ∀ n, sumN g n ≤ b * n
  | 0 => Nat.le_refl _
  | n + 1 => by
    have := sumN_le h n
    have := h n
    simp only [sumN, Nat.mul_succ]
    omega
def dem (J : List Jt) : Nat := sumN (jo J) J.length
def hgt (cap D o : Nat) : Nat := if cap < D then 10 * o * cap / D else 10 * o
def lan (J : List Jt) (cap : Nat) (w : Int32) (D j : Nat) : Int32 := nI (jp J j) + nI (hgt cap D (jo J j)) * w / 20
def wil (x : Int32) : Bool := decide (x < 0) || decide (99 < x)
def bI (b : Bool) : Int32 := if b = true then 1 else 0
/-- positions and openings are within their ranges -/
def JI (J : List Jt) : Prop := ∀ j, jp J j ≤ 99 ∧ jo J j ≤ 10
theorem dem_le {J : List Jt} (h : JI J) (hn : J.length ≤ 10) : dem J ≤ 100 := by
  have := sumN_le (fun j => (h j).2) J.length
  unfold dem
  omega
theorem hgt_le {cap D o : Nat} (ho : o ≤ 10) : hgt cap D o ≤ 100 := by
  unfold hgt
  split
  · rename_i h
    have h1 : 10 * o * cap / D ≤ 10 * o := by
      apply Nat.div_le_of_le_mul
      rw [Nat.mul_comm D]
      exact Nat.mul_le_mul_left _ (by omega)
    omega
  · omega
/-- the jets' three cells at a -/
def JA0 (G : GA) (F : AH) (a n : Nat) (f g : Nat → Int32) (cap : Nat) (w : Int32) : Prop :=
  F.2 a = some (.inr (1, [.ref (a + 1), .ref (a + 2), .int (nI n), .int (nI cap), .int w])) ∧ F.2 (a + 1) = some (.inl (gC G 0, 10, .inl f)) ∧ F.2 (a + 2) = some (.inl (gC G 0, 10, .inl g))
def JR (J : List Jt) (f g : Nat → Int32) : Prop := J.length ≤ 10 ∧ ∀ j, j < J.length → f j = nI (jp J j) ∧ g j = nI (jo J j)
def JA (G : GA) (F : AH) (a : Nat) (J : List Jt) (cap : Nat) (w : Int32) : Prop := ∃ f g, JA0 G F a J.length f g cap w ∧ JR J f g
theorem JA.kept {G : GA} {F F' : AH} {a : Nat} {J : List Jt} {cap : Nat} {w : Int32} (h : JA G F a J cap w) (e : ∀ q, a ≤ q → q < a + 3 → F'.2 q = F.2 q) : JA G F' a J cap w := by
  obtain ⟨f, g, ⟨h1, h2, h3⟩, h4⟩ := h
  exact ⟨f, g, ⟨(e a (by omega) (by omega)).trans h1, (e (a + 1) (by omega) (by omega)).trans h2, (e (a + 2) (by omega) (by omega)).trans h3⟩, h4⟩

