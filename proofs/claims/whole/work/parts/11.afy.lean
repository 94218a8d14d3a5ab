/-! Calls that only answer. -/
section AFY
variable {G : GA} {mi : MI} {d bc bs : Nat} {R : AR → AH → Prop} {F : AH} {pc : Nat} {ls : List (Option Value)} {st : List Value}
theorem AV.x {v : Option Value} {F0 : AH} {E : String} {F' : AH} : ¬ AV v F0 (.inr E) F' := fun h => nomatch h.1
theorem AF.v1 {mi' : MI} {idx n ci d' b : Nat} {As rest : List Value} {fs : List Value} {v : Value} (hd : decode mi.2.1 pc = .ok (.invokevirtual idx, 3)) (hk : KV mi.1.cls idx mi' n) (hM : AC G mi' d' 0 0 (.ref b :: As) F (AV (some v) F)) (hF : F.2 b = some (.inr (ci, fs))) (hci : (cls[ci]?).map (fun q => q.1) = some mi'.1.cls) (hn : As.length = n) (hst : st = As.reverse ++ .ref b :: rest) (hw : (rest.map fun v => v.category).sum ≤ 8) (hdd : d' + 1 ≤ d) (hx : mi.2.2.2.2 = [])
    (k : AF G mi d bc bs R F (pc + 3) ls (v :: rest)) : AF G mi d bc bs R F pc ls st :=
  AF.callV (mc' := 0) (ms' := 0) hd hk hM hF hci hn hst hw hdd hx (fun E F' h => absurd h AV.x) (fun v' F' h => by obtain ⟨h1, rfl⟩ := h; cases h1; exact k)
theorem AF.s1 {mi' : MI} {idx n d' : Nat} {As rest : List Value} {v : Value} (hd : decode mi.2.1 pc = .ok (.invokestatic idx, 3)) (hk : KS mi.1.cls idx mi' n) (hM : AC G mi' d' 0 0 As F (AV (some v) F)) (hn : As.length = n) (hst : st = As.reverse ++ rest) (hw : (rest.map fun v => v.category).sum ≤ 8) (hdd : d' + 1 ≤ d) (hx : mi.2.2.2.2 = [])
    (k : AF G mi d bc bs R F (pc + 3) ls (v :: rest)) : AF G mi d bc bs R F pc ls st :=
  AF.callS (mc' := 0) (ms' := 0) hd hk hM hn hst hw hdd hx (fun E F' h => absurd h AV.x) (fun v' F' h => by obtain ⟨h1, rfl⟩ := h; cases h1; exact k)
theorem AF.sn1 {mi' : MI} {host : String} {idx n d' : Nat} {As rest : List Value} {v : Value} (hd : decode mi.2.1 pc = .ok (.invokestatic idx, 3)) (hk : KSN mi.1.cls idx mi' n host) (hM : AC G mi' d' 0 0 As F (AV (some v) F)) (hn : As.length = n) (hst : st = As.reverse ++ rest) (hw : (rest.map fun v => v.category).sum ≤ 8) (hdd : d' + 1 ≤ d) (hx : mi.2.2.2.2 = [])
    (k : AF G mi d bc bs R F (pc + 3) ls (v :: rest)) : AF G mi d bc bs R F pc ls st :=
  AF.callSN (mc' := 0) (ms' := 0) hd hk hM hn hst hw hdd hx (fun E F' h => AV.x h) (fun v' F' h => by obtain ⟨h1, rfl⟩ := h; cases h1; exact k)
theorem AF.vn1 {mi' : MI} {host : String} {idx n ci d' b : Nat} {As rest : List Value} {fs : List Value} {v : Value} (hd : decode mi.2.1 pc = .ok (.invokevirtual idx, 3)) (hk : KVN mi.1.cls idx mi' n host) (hM : AC G mi' d' 0 0 (.ref b :: As) F (AV (some v) F)) (hF : F.2 b = some (.inr (ci, fs))) (hci : (cls[ci]?).map (fun q => q.1) = some mi'.1.cls) (hn : As.length = n) (hst : st = As.reverse ++ .ref b :: rest) (hw : (rest.map fun v => v.category).sum ≤ 8) (hdd : d' + 1 ≤ d) (hx : mi.2.2.2.2 = [])
    (k : AF G mi d bc bs R F (pc + 3) ls (v :: rest)) : AF G mi d bc bs R F pc ls st :=
  AF.callVN (mc' := 0) (ms' := 0) hd hk hM hF hci hn hst hw hdd hx (fun E F' h => AV.x h) (fun v' F' h => by obtain ⟨h1, rfl⟩ := h; cases h1; exact k)
end AFY

