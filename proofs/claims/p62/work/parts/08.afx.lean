/-! More rows of the layer: writes told by their picture, counters, frames. -/
/-- outside lo .. hi nothing has changed, and nothing was made -/
def Fr (lo hi : Nat) (F0 F : AH) : Prop := F.1 = F0.1 ∧ ∀ q, (q < lo ∨ hi ≤ q) → F.2 q = F0.2 q
theorem Fr.rf {lo hi : Nat} {F : AH} : Fr lo hi F F := ⟨rfl, fun _ _ => rfl⟩
theorem Fr.step {lo hi a : Nat} {F0 F F' : AH} (h : Fr lo hi F0 F) (e : F'.1 = F.1) (h1 : lo ≤ a) (h2 : a < hi) (o : ∀ q, ¬ q = a → F'.2 q = F.2 q) : Fr lo hi F0 F' := ⟨e.trans h.1, fun q hq => (o q (by omega)).trans (h.2 q hq)⟩
theorem Fr.trans {lo hi lo' hi' : Nat} {F0 F F' : AH} (h : Fr lo hi F0 F) (h' : Fr lo' hi' F F') (h1 : lo ≤ lo') (h2 : hi' ≤ hi) : Fr lo hi F0 F' := ⟨h'.1.trans h.1, fun q hq => (h'.2 q (by omega)).trans (h.2 q hq)⟩
theorem Fr.wide {lo hi lo' hi' : Nat} {F0 F : AH} (h : Fr lo' hi' F0 F) (h1 : lo ≤ lo') (h2 : hi' ≤ hi) : Fr lo hi F0 F := ⟨h.1, fun q hq => h.2 q (by omega)⟩
theorem Fr.at {lo hi a : Nat} {F0 F : AH} {c : Option va_E} (h : Fr lo hi F0 F) (hc : F0.2 a = c) (h1 : a < lo ∨ hi ≤ a) : F.2 a = c := (h.2 a h1).trans hc
section AFX
variable {G : GA} {mi : MI} {d bc bs : Nat} {R : AR → AH → Prop} {F : AH} {pc : Nat} {ls : List (Option Value)} {st : List Value}
theorem AF.inc1 {i : Nat} {k0 : Nat} (hd : decode mi.2.1 pc = .ok (.iinc i 1, 3)) (hl : ls[i]? = some (some (.int (nI k0)))) (hn : i < mi.2.2.1) (k : AF G mi d bc bs R F (pc + 3) (ls1 ls i (.int (nI (k0 + 1)))) st) : AF G mi d bc bs R F pc ls st := by
  refine AF.iinc hd hl hn ?_
  rw [show nI k0 + Int32.ofInt 1 = nI (k0 + 1) from nI_1 k0]
  exact k
theorem AF.putfieldF {idx ci k a : Nat} {fs : List Value} {v : Value} {ty : FieldType} (hd : decode mi.2.1 pc = .ok (.putfield idx, 3)) (hl : FP mi.1.cls idx ci k ty) (hF : F.2 a = some (.inr (ci, fs))) (ha : gN G ≤ a) (hlen : k < fs.length) (hn : narrow ty v = v) (hfit : fits ty v = true) (hini : mi.1.name = "<init>" ∨ ∀ T : u_T, (∃ (C : String) (N : Nat), cls[ci]? = some (C, T, N)) → (T k).2.2.2 = false)
    (kk : ∀ F' : AH, F'.1 = F.1 → F'.2 a = some (.inr (ci, fs.set k v)) → (∀ q, ¬ q = a → F'.2 q = F.2 q) → AF G mi d bc bs R F' (pc + 3) ls st) : AF G mi d bc bs R F pc ls (v :: .ref a :: st) :=
  AF.putfield hd hl hF ha hlen hn hfit hini (kk _ rfl pu_s (fun _ h => pu_n h))
theorem AF.iastoreF {a n : Nat} {i : Int32} {x : Int32} {f : Nat → Int32} (j : Nat) (hd : decode mi.2.1 pc = .ok (.iastore, 1)) (hF : F.2 a = some (.inl (gC G 0, n, .inl f))) (ha : gN G ≤ a) (hi : i = nI j) (hj : j < n) (hb : n < 2 ^ 31) (k : ∀ F' : AH, F'.1 = F.1 → F'.2 a = some (.inl (gC G 0, n, .inl (upd f j x))) → (∀ q, ¬ q = a → F'.2 q = F.2 q) → AF G mi d bc bs R F' (pc + 1) ls st) : AF G mi d bc bs R F pc ls (.int x :: .int i :: .ref a :: st) :=
  AF.iastore j hd hF ha hi hj hb (k _ rfl pu_s (fun _ h => pu_n h))
theorem AF.lastoreF {a n : Nat} {i : Int32} {x : Int64} {f : Nat → Int64} (j : Nat) (hd : decode mi.2.1 pc = .ok (.lastore, 1)) (hF : F.2 a = some (.inl (gC G 1, n, .inr (.inl f)))) (ha : gN G ≤ a) (hi : i = nI j) (hj : j < n) (hb : n < 2 ^ 31) (k : ∀ F' : AH, F'.1 = F.1 → F'.2 a = some (.inl (gC G 1, n, .inr (.inl (vp_updL f j x)))) → (∀ q, ¬ q = a → F'.2 q = F.2 q) → AF G mi d bc bs R F' (pc + 1) ls st) : AF G mi d bc bs R F pc ls (.long x :: .int i :: .ref a :: st) :=
  AF.lastore j hd hF ha hi hj hb (k _ rfl pu_s (fun _ h => pu_n h))
theorem AF.castoreF {a n : Nat} {i : Int32} {x : Int32} {f : Nat → Int32} (j : Nat) (hd : decode mi.2.1 pc = .ok (.castore, 1)) (hF : F.2 a = some (.inl (gC G 2, n, .inl f))) (ha : gN G ≤ a) (hi : i = nI j) (hj : j < n) (hb : n < 2 ^ 31) (k : ∀ F' : AH, F'.1 = F.1 → F'.2 a = some (.inl (gC G 2, n, .inl (upd f j (vp_nar .char x)))) → (∀ q, ¬ q = a → F'.2 q = F.2 q) → AF G mi d bc bs R F' (pc + 1) ls st) : AF G mi d bc bs R F pc ls (.int x :: .int i :: .ref a :: st) :=
  AF.castore j hd hF ha hi hj hb (k _ rfl pu_s (fun _ h => pu_n h))
/-- a method's answer, nothing written -/
def AV (v : Option Value) (F0 : AH) : AR → AH → Prop := fun r F => r = .inl v ∧ F = F0
end AFX

