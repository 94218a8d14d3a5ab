/-! The law: rows that it wants. -/
section
variable {G : GA} {mi : MI} {d bc bs : Nat} {R : AR → AH → Prop} {F : AH} {pc : Nat} {ls : List (Option Value)} {st : List Value}
theorem AF.lmul {x y : Int64} (hd : decode mi.2.1 pc = .ok (.lmul, 1)) (k : AF G mi d bc bs R F (pc + 1) ls (.long (x * y) :: st)) : AF G mi d bc bs R F pc ls (.long y :: .long x :: st) := by
  intro p e Rm s m args below meth c mc ms H locs cells slots ls0 hC
  exact lv_lmul hC.1.1 hC.1.2.1 hd (k _ _ _ _ _ _ _ _ _ _ _ _ _ _ _ _ hC)
theorem AF.iushr {x y v : Int32} (hd : decode mi.2.1 pc = .ok (.iushr, 1)) (hv : (x.toUInt32 >>> (y.toUInt32 &&& Int32.toUInt32 31)).toInt32 = v) (k : AF G mi d bc bs R F (pc + 1) ls (.int v :: st)) : AF G mi d bc bs R F pc ls (.int y :: .int x :: st) := by
  intro p e Rm s m args below meth c mc ms H locs cells slots ls0 hC
  exact lv_iushr hC.1.1 hC.1.2.1 hd hv (k _ _ _ _ _ _ _ _ _ _ _ _ _ _ _ _ hC)
theorem AF.ldc2J {v : Int64} {idx : Nat} (hd : decode mi.2.1 pc = .ok (.ldc2_w idx, 3)) (hl : Cond.constantLong mi.1.cls idx v ∈ lw_tbl) (k : AF G mi d bc bs R F (pc + 3) ls (.long v :: st)) : AF G mi d bc bs R F pc ls st := by
  intro p e Rm s m args below meth c mc ms H locs cells slots ls0 hC
  exact lv_ldc2 hC.1.1 hC.1.2.1 hC.1.2.2.2.2.2.2.1 (gw hC.2.1.1 hC.2.1.2.1 hl rfl) hd (k _ _ _ _ _ _ _ _ _ _ _ _ _ _ _ _ hC)
theorem AF.ldc2D {v : UInt64} {idx : Nat} (hd : decode mi.2.1 pc = .ok (.ldc2_w idx, 3)) (hl : Cond.constantDouble mi.1.cls idx v ∈ lw_tbl) (k : AF G mi d bc bs R F (pc + 3) ls (.double v :: st)) : AF G mi d bc bs R F pc ls st := by
  intro p e Rm s m args below meth c mc ms H locs cells slots ls0 hC
  exact lv_ldc2d hC.1.1 hC.1.2.1 hC.1.2.2.2.2.2.2.1 (gw hC.2.1.1 hC.2.1.2.1 hl rfl) hd (k _ _ _ _ _ _ _ _ _ _ _ _ _ _ _ _ hC)
theorem AF.ldcF {v : UInt32} {idx : Nat} (hd : decode mi.2.1 pc = .ok (.ldc idx, 2)) (hl : Cond.constantFloat mi.1.cls idx v ∈ lw_tbl) (k : AF G mi d bc bs R F (pc + 2) ls (.float v :: st)) : AF G mi d bc bs R F pc ls st := by
  intro p e Rm s m args below meth c mc ms H locs cells slots ls0 hC
  exact lv_ldcf hC.1.1 hC.1.2.1 hC.1.2.2.2.2.2.2.1 (gw hC.2.1.1 hC.2.1.2.1 hl rfl) hd (k _ _ _ _ _ _ _ _ _ _ _ _ _ _ _ _ hC)
def KM1 (own : String) (idx : Nat) (y : MethodName) (cc : ByteArray) (ret : FieldType) : Prop := Cond.methodLink own idx y ∈ lw_tbl ∧ Cond.static y ∈ lw_tbl ∧ Cond.initialized "java/lang/Math" ∈ lw_tbl ∧ Cond.code y cc 1 (some ret) ∈ lw_tbl
theorem AF.abs {idx : Nat} {x : Int32} (hd : decode mi.2.1 pc = .ok (.invokestatic idx, 3)) (hk : KM1 mi.1.cls idx Lib.Math.abs.name Lib.Math.abs.code .int) (hw : (st.map fun v => v.category).sum ≤ 8) (hdd : 1 ≤ d) (k : AF G mi d bc bs R F (pc + 3) ls (.int (if 0 ≤ x then x else 0 - x) :: st)) : AF G mi d bc bs R F pc ls (.int x :: st) := by
  intro p e Rm s m args below meth c mc ms H locs cells slots ls0 hC
  obtain ⟨w1, w2, w3, w4⟩ := hk
  have hG := hC.2.1.1
  have hW := hC.2.1.2.1
  obtain ⟨a1, a2, a3, a4, a5, a6⟩ := hC.2.2.2.2.2
  exact va_mabs hC.1.1 hC.1.2.1 (hC.1.2.2.2.1.trans hC.2.2.2.2.1.1.symm) hC.1.2.2.2.2.2.2.1 (gw hG hW w1 rfl) (gw hG hW w2 rfl) (gw hG hW w3 rfl) (gw hG hW w4 rfl) (by omega) (by omega) (by omega) (by omega) hd (k _ _ _ _ _ _ _ _ _ _ _ _ _ _ _ _ hC)
end
/-! what the law knows of the show between its calls: the stage, what was saved, the stages before -/
abbrev YS : Type := Sg × Option Sg × List Sg
def LKt (G : GA) (c : Nat) (Y : YS) (B : Nat) (tx : List Int32) : Nat → AH → Prop := fun bv F => ∃ X : XS, (X.sg = Y.1 ∧ X.sv = Y.2.1 ∧ X.hs = Y.2.2 ∧ X.tx = tx) ∧ XI X B ∧ CX G F c bv X ∧ c + 131 ≤ F.1
abbrev LK (G : GA) (c : Nat) (Y : YS) (B : Nat) : Nat → AH → Prop := LKt G c Y B []
/-- .. the output too -/
def LKo (G : GA) (c : Nat) (Y : YS) (B : Nat) (T : List Int32) : Nat → AH → Prop := fun bv F => ∃ X : XS, (X.sg = Y.1 ∧ X.sv = Y.2.1 ∧ X.hs = Y.2.2 ∧ X.tx = []) ∧ XI X B ∧ CX G F c bv X ∧ c + 131 ≤ F.1 ∧ X.ou = T
theorem LKo.lk {G : GA} {c B bv : Nat} {Y : YS} {T : List Int32} {F : AH} (h : LKo G c Y B T bv F) : LK G c Y B bv F := by
  obtain ⟨X, h1, h2, h3, h4, -⟩ := h
  exact ⟨X, h1, h2, h3, h4⟩
theorem LK.lko {G : GA} {c B bv : Nat} {Y : YS} {F : AH} (h : LK G c Y B bv F) : ∃ T, LKo G c Y B T bv F := by
  obtain ⟨X, h1, h2, h3, h4⟩ := h
  exact ⟨X.ou, X, h1, h2, h3, h4, rfl⟩
/-- a call's answer v, the show as K says, nothing else written -/
def LR (K : Nat → AH → Prop) (c bv : Nat) (F0 : AH) (v : Value) : AR → AH → Prop := fun r F' => r = .inl (some v) ∧ ∃ bv', K bv' F' ∧ XF c bv bv' F0 F'
/-- .. with what P says of the answer -/
def LE (P : Value → Nat → AH → Prop) (c bv : Nat) (F0 : AH) : AR → AH → Prop := fun r F' => ∃ v bv', r = .inl (some v) ∧ P v bv' F' ∧ XF c bv bv' F0 F'
section
variable {G : GA} {mi mi' : MI} {d bc bs idx n d' mc' ms' c B bv bv0 : Nat} {R : AR → AH → Prop} {F F0 : AH} {pc : Nat} {ls : List (Option Value)} {st As rest : List Value} {Y Y' : YS} {K : Nat → AH → Prop} {P : Value → Nat → AH → Prop} {v : Value} {tx : List Int32} {X X' : XS}
theorem LKt.c0 (h : LKt G c Y B tx bv F) : ∃ fs, F.2 c = some (.inr (5, fs)) := by
  obtain ⟨X, -, -, hC, -⟩ := h
  obtain ⟨hn, hf, ⟨c0, -⟩, -⟩ := hC
  exact ⟨_, c0⟩
theorem LKt.z (h : LKt G c Y B tx bv F) : c + 131 ≤ F.1 := by obtain ⟨X, -, -, -, h⟩ := h; exact h
theorem LKt.b (h : LKt G c Y B tx bv F) : bv = c + 42 ∨ c + 131 ≤ bv := by
  obtain ⟨X, -, -, hC, -⟩ := h
  obtain ⟨hn, hf, -, -, -, -, -, -, -, -, -, h⟩ := hC
  exact h
theorem LKt.q (h : LKt G c Y B tx bv F) : SQ Y.1 B := by
  obtain ⟨X, h1, h2, -⟩ := h
  rw [← h1.1]
  exact h2.1
theorem LKt.mono {B' : Nat} (h : LKt G c Y B tx bv F) (hb : B ≤ B') (h2 : B' ≤ 2 ^ 21) : LKt G c Y B' tx bv F := by
  obtain ⟨X, h1, h3, h4⟩ := h
  exact ⟨X, h1, h3.mono hb h2, h4⟩
theorem LKt.kept {F' : AH} (h : LKt G c Y B tx bv F) (e : ∀ q, c ≤ q → q < c + 131 → F'.2 q = F.2 q) (e2 : F'.2 bv = F.2 bv) (e3 : F.1 ≤ F'.1) : LKt G c Y B tx bv F' := by
  obtain ⟨X, h1, h3, h4, h5⟩ := h
  exact ⟨X, h1, h3, h4.kept e e2 e3, Nat.le_trans h5 e3⟩
theorem LKo.c0 {T : List Int32} (h : LKo G c Y B T bv F) : ∃ fs, F.2 c = some (.inr (5, fs)) := h.lk.c0
theorem LR.xq (hz : c + 131 ≤ F.1) (hy : X'.sg = Y.1 ∧ X'.sv = Y.2.1 ∧ X'.hs = Y.2.2 ∧ X'.tx = tx) (hi : XI X' B) : ∀ r F', XQ G c bv X' (.inl (some v)) F r F' → LR (LKt G c Y B tx) c bv F v r F' := by
  intro r F' q
  obtain ⟨e, bv', hC, hx⟩ := q
  exact ⟨e, bv', ⟨X', hy, hi, hC, Nat.le_trans hz hx.1⟩, hx⟩
theorem LR.xo (hz : c + 131 ≤ F.1) (hy : X'.sg = Y.1 ∧ X'.sv = Y.2.1 ∧ X'.hs = Y.2.2 ∧ X'.tx = []) (hi : XI X' B) : ∀ r F', XQ G c bv X' (.inl (some v)) F r F' → LR (LKo G c Y B X'.ou) c bv F v r F' := by
  intro r F' q
  obtain ⟨e, bv', hC, hx⟩ := q
  exact ⟨e, bv', ⟨X', hy, hi, hC, Nat.le_trans hz hx.1, rfl⟩, hx⟩
/-- a wrapper is called -/
theorem AF.lx (hd : decode mi.2.1 pc = .ok (.invokestatic idx, 3)) (hk : KSX mi.1.cls idx mi' n) (hM : AC G mi' d' mc' ms' As F (LR K c bv F v)) (hX : XF c bv0 bv F0 F) (hn : As.length = n) (hst : st = As.reverse ++ rest) (hw : (rest.map fun v => v.category).sum ≤ 8) (hdd : d' + 1 ≤ d) (hx : mi.2.2.2.2 = [])
    (k : ∀ F' bv', K bv' F' → XF c bv0 bv' F0 F' → AF G mi d bc bs R F' (pc + 3) ls (v :: rest)) : AF G mi d (bc + mc') (bs + ms') R F pc ls st :=
  AF.callSX hd hk hM hn hst hw hdd hx (fun E F' h => nomatch h.1) (fun w F' h => by
    obtain ⟨h1, bv', h2, h3⟩ := h
    cases h1
    exact k F' bv' h2 (hX.trans h3))
/-- a method of the law without handlers -/
theorem AF.ly (hd : decode mi.2.1 pc = .ok (.invokestatic idx, 3)) (hk : KS mi.1.cls idx mi' n) (hM : AC G mi' d' mc' ms' As F (LR K c bv F v)) (hX : XF c bv0 bv F0 F) (hn : As.length = n) (hst : st = As.reverse ++ rest) (hw : (rest.map fun v => v.category).sum ≤ 8) (hdd : d' + 1 ≤ d) (hx : mi.2.2.2.2 = [])
    (k : ∀ F' bv', K bv' F' → XF c bv0 bv' F0 F' → AF G mi d bc bs R F' (pc + 3) ls (v :: rest)) : AF G mi d (bc + mc') (bs + ms') R F pc ls st :=
  AF.callS hd hk hM hn hst hw hdd hx (fun E F' h => nomatch h.1) (fun w F' h => by
    obtain ⟨h1, bv', h2, h3⟩ := h
    cases h1
    exact k F' bv' h2 (hX.trans h3))
theorem AF.le (hd : decode mi.2.1 pc = .ok (.invokestatic idx, 3)) (hk : KS mi.1.cls idx mi' n) (hM : AC G mi' d' mc' ms' As F (LE P c bv F)) (hX : XF c bv0 bv F0 F) (hn : As.length = n) (hst : st = As.reverse ++ rest) (hw : (rest.map fun v => v.category).sum ≤ 8) (hdd : d' + 1 ≤ d) (hx : mi.2.2.2.2 = [])
    (k : ∀ F' bv' v, P v bv' F' → XF c bv0 bv' F0 F' → AF G mi d bc bs R F' (pc + 3) ls (v :: rest)) : AF G mi d (bc + mc') (bs + ms') R F pc ls st :=
  AF.callS hd hk hM hn hst hw hdd hx (fun E F' h => by obtain ⟨v, bv', h1, -⟩ := h; cases h1) (fun w F' h => by
    obtain ⟨v, bv', h1, h2, h3⟩ := h
    cases h1
    exact k F' bv' v h2 (hX.trans h3))
theorem AF.lex (hd : decode mi.2.1 pc = .ok (.invokestatic idx, 3)) (hk : KSX mi.1.cls idx mi' n) (hM : AC G mi' d' mc' ms' As F (LE P c bv F)) (hX : XF c bv0 bv F0 F) (hn : As.length = n) (hst : st = As.reverse ++ rest) (hw : (rest.map fun v => v.category).sum ≤ 8) (hdd : d' + 1 ≤ d) (hx : mi.2.2.2.2 = [])
    (k : ∀ F' bv' v, P v bv' F' → XF c bv0 bv' F0 F' → AF G mi d bc bs R F' (pc + 3) ls (v :: rest)) : AF G mi d (bc + mc') (bs + ms') R F pc ls st :=
  AF.callSX hd hk hM hn hst hw hdd hx (fun E F' h => by obtain ⟨v, bv', h1, -⟩ := h; cases h1) (fun w F' h => by
    obtain ⟨v, bv', h1, h2, h3⟩ := h
    cases h1
    exact k F' bv' v h2 (hX.trans h3))
/-- the show's own method -/
theorem AF.lv {fs : List Value} (hd : decode mi.2.1 pc = .ok (.invokevirtual idx, 3)) (hk : KV mi.1.cls idx mi' n) (hM : AC G mi' d' mc' ms' (.ref c :: As) F (LR K c bv F v)) (h0 : F.2 c = some (.inr (5, fs))) (hci : mi'.1.cls = RX8) (hX : XF c bv0 bv F0 F) (hn : As.length = n) (hst : st = As.reverse ++ .ref c :: rest) (hw : (rest.map fun v => v.category).sum ≤ 8) (hdd : d' + 1 ≤ d) (hx : mi.2.2.2.2 = [])
    (k : ∀ F' bv', K bv' F' → XF c bv0 bv' F0 F' → AF G mi d bc bs R F' (pc + 3) ls (v :: rest)) : AF G mi d (bc + mc') (bs + ms') R F pc ls st :=
  AF.callV hd hk hM h0 (by rw [hci]; rfl) hn hst hw hdd hx (fun E F' h => nomatch h.1) (fun w F' h => by
    obtain ⟨h1, bv', h2, h3⟩ := h
    cases h1
    exact k F' bv' h2 (hX.trans h3))
end

