/-! Calls that write. -/
section AFW
variable {G : GA} {mi : MI} {d bc bs : Nat} {R : AR → AH → Prop} {F : AH} {pc : Nat} {ls : List (Option Value)} {st : List Value}
theorem AF.vw {mi' : MI} {idx n ci d' b : Nat} {As rest : List Value} {fs : List Value} {R' : AR → AH → Prop} (hd : decode mi.2.1 pc = .ok (.invokevirtual idx, 3)) (hk : KV mi.1.cls idx mi' n) (hM : AC G mi' d' 0 0 (.ref b :: As) F R') (hF : F.2 b = some (.inr (ci, fs))) (hci : (cls[ci]?).map (fun q => q.1) = some mi'.1.cls) (hn : As.length = n) (hst : st = As.reverse ++ .ref b :: rest) (hw : (rest.map fun v => v.category).sum ≤ 8) (hdd : d' + 1 ≤ d) (hx : mi.2.2.2.2 = [])
    (kx : ∀ E F', ¬ R' (.inr E) F') (k : ∀ v F', R' (.inl v) F' → AF G mi d bc bs R F' (pc + 3) ls (v.toList ++ rest)) : AF G mi d bc bs R F pc ls st :=
  AF.callV (mc' := 0) (ms' := 0) hd hk hM hF hci hn hst hw hdd hx (fun E F' h => absurd h (kx E F')) k
theorem AF.sw {mi' : MI} {idx n d' : Nat} {As rest : List Value} {R' : AR → AH → Prop} (hd : decode mi.2.1 pc = .ok (.invokestatic idx, 3)) (hk : KS mi.1.cls idx mi' n) (hM : AC G mi' d' 0 0 As F R') (hn : As.length = n) (hst : st = As.reverse ++ rest) (hw : (rest.map fun v => v.category).sum ≤ 8) (hdd : d' + 1 ≤ d) (hx : mi.2.2.2.2 = [])
    (kx : ∀ E F', ¬ R' (.inr E) F') (k : ∀ v F', R' (.inl v) F' → AF G mi d bc bs R F' (pc + 3) ls (v.toList ++ rest)) : AF G mi d bc bs R F pc ls st :=
  AF.callS (mc' := 0) (ms' := 0) hd hk hM hn hst hw hdd hx (fun E F' h => absurd h (kx E F')) k
theorem AF.vnw {mi' : MI} {host : String} {idx n ci d' b : Nat} {As rest : List Value} {fs : List Value} {R' : AR → AH → Prop} (hd : decode mi.2.1 pc = .ok (.invokevirtual idx, 3)) (hk : KVN mi.1.cls idx mi' n host) (hM : AC G mi' d' 0 0 (.ref b :: As) F R') (hF : F.2 b = some (.inr (ci, fs))) (hci : (cls[ci]?).map (fun q => q.1) = some mi'.1.cls) (hn : As.length = n) (hst : st = As.reverse ++ .ref b :: rest) (hw : (rest.map fun v => v.category).sum ≤ 8) (hdd : d' + 1 ≤ d) (hx : mi.2.2.2.2 = [])
    (kx : ∀ E F', ¬ R' (.inr E) F') (k : ∀ v F', R' (.inl v) F' → AF G mi d bc bs R F' (pc + 3) ls (v.toList ++ rest)) : AF G mi d bc bs R F pc ls st :=
  AF.callVN (mc' := 0) (ms' := 0) hd hk hM hF hci hn hst hw hdd hx kx k
end AFW

