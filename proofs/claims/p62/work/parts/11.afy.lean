/-! Calls that only answer. -/
section AFY
variable {G : GA} {mi : MI} {d bc bs : Nat} {R : AR → AH → Prop} {F : AH} {pc : Nat} {ls : List (Option Value)} {st : List Value}
theorem AV.x {v : Option Value} {F0 : AH} {E : String} {F' : AH} : ¬ AV v F0 (.inr E) F' := fun h => nomatch h.1
theorem AF.v1 {mi' : MI} {idx n ci d' b : Nat} {As rest : List Value} {fs : List Value} {v : Value} (hd : decode mi.2.1 pc = .ok (.invokevirtual idx, 3)) (hk : KV mi.1.cls idx mi' n) (hM : AC G mi' d' 0 0 (.ref b :: As) F (AV (some v) F)) (hF : F.2 b = some (.inr (ci, fs))) (hci : (cls[ci]?).map (fun q => q.1) = some mi'.1.cls) (hn : As.length = n) (hst : st = As.reverse ++ .ref b :: rest) (hw : (rest.map fun v => v.category).sum ≤ 8) (hdd : d' + 1 ≤ d) (hx : mi.2.2.2.2 = [])
    (k : AF G mi d bc bs R F (pc + 3) ls (v :: rest)) : AF G mi d bc bs R F pc ls st :=
  AF.callV (mc' := 0) (ms' := 0) hd hk hM hF hci hn hst hw hdd hx (fun E F' h => absurd h AV.x) (fun v' F' h => by obtain ⟨h1, rfl⟩ := h; cases h1; exact k)
theorem AF.s1 {mi' : MI} {idx n d' : Nat} {As rest : List Value} {v : Value} (hd : decode mi.2.1 pc = .ok (.invokestatic idx, 3)) (hk : KS mi.1.cls idx mi' n) (hM : AC G mi' d' 0 0 As F (AV (some v) F)) (hn : As.length = n) (hst : st = As.reverse ++ rest) (hw : (rest.map fun v => v.category).sum ≤ 8) (hdd : d' + 1 ≤ d) (hx : mi.2.2.2.2 = [])
    (k : AF G mi d bc bs R F (pc + 3) ls (v :: rest)) : AF G mi d bc bs R F pc ls st :=
  AF.callS (mc' := 0) (ms' := 0) hd hk hM hn hst hw hdd hx (fun E F' h => absurd h AV.x) (fun v' F' h => by obtain ⟨h1, rfl⟩ := h; cases h1; exact k)
theorem AF.sn1 {mi' : MI} {host : String} {idx n d' : Nat} {As rest : List Value} {v : Value} (hd : decode mi.2.1 pc = .ok (.invokestatic idx, 3)) (hk : KSN mi.1.cls idx mi' n host) (hM : AC G mi' d' 0 0 As F (AV (some v) F)) (hn : As.length = n) (hst : st = As.reverse ++ rest) (hw : (rest.map fun v => v.category).sum ≤ 8) (hdd : d' + 1 ≤ d) (hx : mi.2.2.2.2 = [])
    (k : AF G mi d bc bs R F (pc + 3) ls (v :: rest)) : AF G mi d bc bs R F pc ls st :=
  AF.callSN (mc' := 0) (ms' := 0) hd hk hM hn hst hw hdd hx (fun E F' h => AV.x h) (fun v' F' h => by obtain ⟨h1, rfl⟩ := h; cases h1; exact k)
theorem AF.vn1 {mi' : MI} {host : String} {idx n ci d' b : Nat} {As rest : List Value} {fs : List Value} {v : Value} (hd : decode mi.2.1 pc = .ok (.invokevirtual idx, 3)) (hk : KVN mi.1.cls idx mi' n host) (hM : AC G mi' d' 0 0 (.ref b :: As) F (AV (some v) F)) (hF : F.2 b = some (.inr (ci, fs))) (hci : (cls[ci]?).map (fun q => q.1) = some mi'.1.cls) (hn : As.length = n) (hst : st = As.reverse ++ .ref b :: rest) (hw : (rest.map fun v => v.category).sum ≤ 8) (hdd : d' + 1 ≤ d) (hx : mi.2.2.2.2 = [])
    (k : AF G mi d bc bs R F (pc + 3) ls (v :: rest)) : AF G mi d bc bs R F pc ls st :=
  AF.callVN (mc' := 0) (ms' := 0) hd hk hM hF hci hn hst hw hdd hx (fun E F' h => AV.x h) (fun v' F' h => by obtain ⟨h1, rfl⟩ := h; cases h1; exact k)
end AFY
section AFY2
variable {G : GA} {mi : MI} {d bc bs : Nat} {R : AR → AH → Prop} {F : AH} {pc : Nat} {ls : List (Option Value)} {st : List Value}
theorem AF.lcmp {x y : Int64} (hd : decode mi.2.1 pc = .ok (.lcmp, 1)) (k : AF G mi d bc bs R F (pc + 1) ls (.int (lg_cmp x y) :: st)) : AF G mi d bc bs R F pc ls (.long y :: .long x :: st) := by
  intro p e Rm s m args below meth c mc ms H locs cells slots ls0 hC
  exact W.lcmp hC.1.1 hC.1.2.1 hd (k _ _ _ _ _ _ _ _ _ _ _ _ _ _ _ _ hC)
theorem lcmp_ge {x y : Int64} (h : 0 ≤ lg_cmp x y) : ¬ x < y := Int64.not_lt.mpr ((lg_cmp_ge _ _).mp h)
theorem lcmp_nge {x y : Int64} (h : ¬ 0 ≤ lg_cmp x y) : x < y := Int64.not_le.mp (fun q => h ((lg_cmp_ge _ _).mpr q))
theorem lcmp_eq {x y : Int64} (h : lg_cmp x y = 0) : x = y := (lg_cmp_eq _ _).mp h
theorem lcmp_self {x : Int64} : lg_cmp x x = 0 := (lg_cmp_eq _ _).mpr rfl
end AFY2

