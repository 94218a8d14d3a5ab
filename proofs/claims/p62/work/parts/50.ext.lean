/-! Words and lemmas that the class's parts and the law's share. -/
abbrev mvs (m : Nat) (g : Nat → Int32) : List Value := [.int (g 0), .ref (m + 1), .ref (m + 2), .ref (m + 3), .ref (m + 4), .ref (m + 5), .int (g 6), .int (g 7), .ref (m + 6), .ref (m + 7), .ref (m + 8), .int (g 11), .int (g 12), .int (g 13), .int (g 14), .int (g 15), .int (g 16), .int (g 17), .int (g 18), .int (g 19)]
def SJ (J : List Jt) (f : Nat → Int32) : Prop := J.length ≤ 10 ∧ ∀ j, j < J.length → f (8 + 2 * j) = nI (jp J j) ∧ f (8 + 2 * j + 1) = nI (jo J j)
def SG (Fg : List (List Sp)) (f : Nat → Int32) : Prop := Fg.length ≤ 5 ∧ ∀ i, i < Fg.length → (fg Fg i).length ≤ 8 ∧ f (28 + 25 * i) = nI (fg Fg i).length ∧ ∀ k, k < (fg Fg i).length → f (28 + 25 * i + 1 + 3 * k) = nI (g3 (fg Fg i) k).1 ∧ f (28 + 25 * i + 1 + 3 * k + 1) = nI (g3 (fg Fg i) k).2.1 ∧ f (28 + 25 * i + 1 + 3 * k + 2) = nI (g3 (fg Fg i) k).2.2
def SE (E : List En) (f : Nat → Int32) : Prop := E.length ≤ 6 ∧ ∀ e, e < E.length → f (153 + 2 * e) = nI (en E e).1 ∧ f (153 + 2 * e + 1) = nI (en E e).2
def SH (σ : Sg) (f : Nat → Int32) : Prop := f 0 = nI σ.J.length ∧ f 1 = nI σ.Fg.length ∧ f 2 = nI σ.E.length ∧ f 3 = nI σ.cap ∧ f 4 = σ.w ∧ f 5 = nI σ.bt ∧ f 6 = nI σ.pum ∧ f 7 = nI σ.sht
/-- the row s holds the stage σ -/
def SR (σ : Sg) (f : Nat → Int32) : Prop := SH σ f ∧ SJ σ.J f ∧ SG σ.Fg f ∧ SE σ.E f
theorem bI_nar (b : Bool) : narrow .boolean (.int (bI b)) = .int (bI b) := by cases b <;> rfl
def inB (x lo hi : Int32) : Bool := decide (lo ≤ x) && decide (x ≤ hi)
theorem inB_t {x lo hi : Int32} (h : inB x lo hi = true) : ¬ x < lo ∧ ¬ hi < x := by
  unfold inB at h
  rw [Bool.and_eq_true, decide_eq_true_iff, decide_eq_true_iff] at h
  exact ⟨Int32.not_lt.mpr h.1, Int32.not_lt.mpr h.2⟩
theorem cl_nI {n : Nat} (h : n < 2 ^ 31) : cl (nI n) = n := nI_clamp h
def rmC (x : Nat) (Fg : List (List Sp)) (i : Nat) : Nat := (fg Fg i).length - (fgt x (fg Fg i)).length
/-- the stage, what was saved, the stages before the latest changes (the oldest first), the input buffer, the output, the error position and the failed command kept (-1: none) -/
abbrev XS : Type := Sg × Option Sg × List Sg × List Int32 × List Int32 × Int32 × Int32
abbrev XS.sg (X : XS) : Sg := X.1
abbrev XS.sv (X : XS) : Option Sg := X.2.1
abbrev XS.hs (X : XS) : List Sg := X.2.2.1
abbrev XS.tx (X : XS) : List Int32 := X.2.2.2.1
abbrev XS.ou (X : XS) : List Int32 := X.2.2.2.2.1
abbrev XS.er (X : XS) : Int32 := X.2.2.2.2.2.1
abbrev XS.fa (X : XS) : Int32 := X.2.2.2.2.2.2
def s0 : Sg := ([], 40, 0, [], [], 0, 0, 0)
def hget (Hs : List Sg) (i : Nat) : Sg := Hs.getD i s0
def HR (Hs : List Sg) (h : Nat → Int32) : Prop := ∀ i, i < Hs.length → SR (hget Hs i) (fun q => h (165 * i + q))
def pushH (Hs : List Sg) (σ : Sg) : List Sg := (if Hs.length = 8 then Hs.eraseIdx 0 else Hs) ++ [σ]
def MXr (X : XS) (g : Nat → Int32) (A : Nat → Nat → Int32) : Prop := (g 6 = nI X.hs.length ∧ X.hs.length ≤ 8 ∧ HR X.hs (A 3)) ∧ (g 7 = bI X.sv.isSome ∧ ∀ τ, X.sv = some τ → SR τ (A 2)) ∧ (g 11 = nI X.tx.length ∧ X.tx.length ≤ 60 ∧ ∀ i, i < X.tx.length → A 5 i = X.tx.getD i 0) ∧ (g 12 = nI X.ou.length ∧ X.ou.length ≤ 90 ∧ ∀ i, i < X.ou.length → A 7 i = X.ou.getD i 0) ∧ g 13 = X.er ∧ g 14 = X.fa
def XI (X : XS) (B : Nat) : Prop := SQ X.sg B ∧ (∀ τ, X.sv = some τ → SQ τ B) ∧ (∀ τ, τ ∈ X.hs → SQ τ B) ∧ X.hs.length ≤ 8 ∧ (X.tx.length ≤ 60 ∧ ∀ i, i < X.tx.length → (X.tx.getD i 0).toUInt32 < 65536) ∧ X.ou.length ≤ 72 ∧ ∀ i, i < X.ou.length → ∃ c, c < 128 ∧ X.ou.getD i 0 = nI c
/-- a change was made -/
def chX (X : XS) (σ' : Sg) (p : Nat) : XS := if p = 0 then (σ', X.sv, pushH X.hs X.sg, X.tx, X.ou, X.er, X.fa) else X
theorem hget_app {Hs : List Sg} {σ : Sg} {i : Nat} : hget (Hs ++ [σ]) i = if i = Hs.length then σ else hget Hs i := gd_app
theorem hget_era {Hs : List Sg} {i : Nat} : hget (Hs.eraseIdx 0) i = hget Hs (i + 1) := by
  rw [hget, gd_era, if_neg (by omega)]; rfl
theorem pushH_len {Hs : List Sg} {σ : Sg} (h : Hs.length ≤ 8) : (pushH Hs σ).length = if Hs.length = 8 then 8 else Hs.length + 1 := by
  unfold pushH
  split
  · rename_i q; rw [List.length_append, List.length_eraseIdx_of_lt (by omega), q]; rfl
  · rw [List.length_append]; rfl
theorem pushH_le {Hs : List Sg} {σ : Sg} (h : Hs.length ≤ 8) : (pushH Hs σ).length ≤ 8 := by
  rw [pushH_len h]; split <;> omega
/-- the first of the coming n beats after which the demand is too great -/
def fovP (σ : Sg) (k : Nat) : Bool := decide (σ.cap < dem (nxN σ (k + 1)).J)
def fov (σ : Sg) (n : Nat) : Option Nat := fnd (fovP σ) n
theorem gd_take {α : Type} {L : List α} {z : α} {k i : Nat} (h : i < k) : (L.take k).getD i z = L.getD i z := by
  rw [List.getD_eq_getElem?_getD, List.getD_eq_getElem?_getD, List.getElem?_take, if_pos h]
def unX (X : XS) : XS := if X.hs.length = 0 then X else (hget X.hs (X.hs.length - 1), X.sv, X.hs.take (X.hs.length - 1), X.tx, X.ou, X.er, X.fa)
def svX (X : XS) : XS := (X.sg, some X.sg, X.hs, X.tx, X.ou, X.er, X.fa)
def reX (X : XS) : XS := match X.sv with
  | none => X
  | some τ => (τ, X.sv, [], X.tx, X.ou, X.er, X.fa)
def fdX (X : XS) (c : Int32) : XS := if X.tx.length = 60 then X else (X.sg, X.sv, X.hs, X.tx ++ [c], X.ou, X.er, X.fa)
/-- a number's signs, a step's, a figure's first k steps' -/
def wrN (n : Nat) : List Int32 := if 9 < n then [nI (48 + n / 10), nI (48 + n % 10)] else [nI (48 + n % 10)]
def wrS (s : Sp) : List Int32 := wrN s.1 ++ [nI 58] ++ wrN s.2.1 ++ [nI 61] ++ wrN s.2.2
def wrF (L : List Sp) : Nat → List Int32
  | 0 => []
  | k + 1 => (wrF L k ++ (if 0 < k then [nI 32] else [])) ++ wrS (g3 L k)
def wrX (X : XS) (i : Nat) : XS := (X.sg, X.sv, X.hs, X.tx, wrF (fg X.sg.Fg i) (fg X.sg.Fg i).length, X.er, X.fa)
theorem wrN_le {n : Nat} : (wrN n).length ≤ 2 := by unfold wrN; split <;> simp
theorem wrS_le {s : Sp} : (wrS s).length ≤ 8 := by
  have h1 := wrN_le (n := s.1)
  have h2 := wrN_le (n := s.2.1)
  have h3 := wrN_le (n := s.2.2)
  simp only [wrS, List.length_append, List.length_cons, List.length_nil]
  omega
theorem wrF_le {L : List Sp} : ∀ k, (wrF L k).length + 1 ≤ 9 * k + 1
  | 0 => Nat.le_refl _
  | k + 1 => by
    have h1 := wrF_le (L := L) k
    have h2 := wrS_le (s := g3 L k)
    simp only [wrF, List.length_append]
    split <;> simp only [List.length_cons, List.length_nil] <;> omega
theorem nar_c : ∀ c, c < 128 → ((nI c).toUInt32 % 65536).toInt32 = nI c ∧ vp_nar .char (nI c) = nI c := by decide +kernel
theorem nar_char {z : Int32} : narrow .char (.int (z.toUInt32 % 65536).toInt32) = .int (z.toUInt32 % 65536).toInt32 := by
  have h := pk_vc z
  simp only [narrow, Value.int.injEq]
  rw [vp_nar_char] at h
  exact h
