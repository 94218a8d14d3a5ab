/-! The layer: inherited calls, handlers. -/
section AFL
variable {G : GA} {mi : MI} {d bc bs : Nat} {R : AR → AH → Prop} {F : AH} {pc : Nat} {ls : List (Option Value)} {st : List Value}
/-- an inherited method of a constant object: class own calls x at idx, mi' runs -/
def KU (own : String) (idx : Nat) (C owner : String) (x : MethodName) (mi : MI) (n : Nat) : Prop := mi.2.2.2.2 = [] ∧ mi.1 = ⟨owner, x.name, x.desc⟩ ∧ (Cond.methodLink own idx x ∈ lw_tbl ∧ Cond.sameMethod x.cls owner x.name x.desc ∈ lw_tbl ∧ Cond.selects C x mi.1 ∈ lw_tbl ∧ Cond.instanceMethod mi.1 ∈ lw_tbl ∧ Cond.initialized mi.1.cls ∈ lw_tbl ∧ Cond.code mi.1 mi.2.1 mi.2.2.1 mi.2.2.2.1 ∈ lw_tbl) ∧ (owner ≠ "java/lang/invoke/MethodHandle" ∧ owner ≠ "java/lang/invoke/VarHandle") ∧ (parseMethodDescriptor x.desc).map (fun d => d.parameters.length) = some n ∧ mi.2.2.1 ≤ 40
theorem AF.callUC {mi' : MI} {C owner : String} {x : MethodName} {idx n d' mc' ms' b : Nat} {As rest : List Value} {R' : AR → AH → Prop} (hd : decode mi.2.1 pc = .ok (.invokevirtual idx, 3)) (hk : KU mi.1.cls idx C owner x mi' n) (hM : AC G mi' d' mc' ms' (.ref b :: As) F R') (hO : va_O C b (gA G) G.2.1 G.2.1.heap) (hn : As.length = n) (hst : st = As.reverse ++ .ref b :: rest) (hw : (rest.map fun v => v.category).sum ≤ 8) (hdd : d' + 1 ≤ d) (hx : mi.2.2.2.2 = [])
    (kx : ∀ E F', ¬ R' (.inr E) F') (k : ∀ v F', R' (.inl v) F' → AF G mi d bc bs R F' (pc + 3) ls (v.toList ++ rest)) : AF G mi d (bc + mc') (bs + ms') R F pc ls st := by
  intro p e Rm s m args below meth c mc ms H locs cells slots ls0 hC
  obtain ⟨hh, hyx, ⟨w1, w2, w3, w4, w5, w6⟩, hy, hpl, h40⟩ := hk
  have hG := hC.2.1.1
  have hW := hC.2.1.2.1
  obtain ⟨a1, a2, a3, a4⟩ := hC.rm hdd h40
  obtain ⟨b1, b2⟩ := acw_code mi' hh hG hW w6
  obtain ⟨cell, q1, q2, q3, -⟩ := (hC.cO hO).kept hC.vS.2.1
  have hdec : va_Decl s ⟨owner, x.name, x.desc⟩ := by
    rw [← hyx]
    exact va_Decl.of (args := args) (gw hG hW w4 rfl) (gw hG hW w6 rfl)
  refine AF.behind hC rfl rfl (run_x (va_runU (C := C) (owner := owner) (x := x) (Ts := []) (y := mi'.1) (bytes := mi'.2.1) (maxL := mi'.2.2.1) (ret := mi'.2.2.2.1) (n := n) (As := As) (rest := rest) hC.fix (hM.met kx) ⟨⟨rfl, rfl, a1, a2, b1, b2⟩, gw hG hW w6 rfl, gw hG hW w5 rfl, hy, plen hpl, gw hG hW w1 rfl, gw hG hW w2 rfl, hdec, gw hG hW w3 rfl, gw hG hW w4 rfl⟩ ⟨acp_blind, ⟨cell, q1, q2, q3⟩, acp_run hC⟩ rfl hn hC.2.2.2.2.1.1 hst (by simpa using hw) hd ⟨a3, a4⟩)) hx (fun E F' q => absurd q (kx E F')) k
/-- a method of a constant object, of its own class -/
theorem AF.callVC {mi' : MI} {idx n d' mc' ms' b : Nat} {As rest : List Value} {R' : AR → AH → Prop} (hd : decode mi.2.1 pc = .ok (.invokevirtual idx, 3)) (hk : KV mi.1.cls idx mi' n) (hM : AC G mi' d' mc' ms' (.ref b :: As) F R') (hO : va_O mi'.1.cls b (gA G) G.2.1 G.2.1.heap) (hn : As.length = n) (hst : st = As.reverse ++ .ref b :: rest) (hw : (rest.map fun v => v.category).sum ≤ 8) (hdd : d' + 1 ≤ d) (hx : mi.2.2.2.2 = [])
    (kx : ∀ E F', R' (.inr E) F' → R (.inr E) F') (k : ∀ v F', R' (.inl v) F' → AF G mi d bc bs R F' (pc + 3) ls (v.toList ++ rest)) : AF G mi d (bc + mc') (bs + ms') R F pc ls st := by
  intro p e Rm s m args below meth c mc ms H locs cells slots ls0 hC
  obtain ⟨hh, ⟨w1, w2, w3, w4, w5⟩, hy, hpl, h40⟩ := hk
  have hG := hC.2.1.1
  have hW := hC.2.1.2.1
  obtain ⟨a1, a2, a3, a4⟩ := hC.rm hdd h40
  obtain ⟨b1, b2⟩ := acw_code mi' hh hG hW w5
  obtain ⟨cell, q1, q2, q3, -⟩ := (hC.cO hO).kept hC.vS.2.1
  exact AF.behind hC rfl rfl (vx_runV (C := mi'.1.cls) (Ts := []) (y := mi'.1) (bytes := mi'.2.1) (maxL := mi'.2.2.1) (ret := mi'.2.2.2.1) (n := n) (As := As) (rest := rest) hC.fix hM ⟨⟨rfl, rfl, a1, a2, b1, b2, gw hG hW w5 rfl, gw hG hW w4 rfl, hy, plen hpl, gw hG hW w1 rfl⟩, gw hG hW w2 rfl, gw hG hW w3 rfl⟩ ⟨acp_blind, ⟨cell, q1, q2, q3⟩, acp_run hC⟩ rfl hn hC.2.2.2.2.1.1 hst (by simpa using hw) hd ⟨a3, a4⟩) hx kx k
/-- a row of the method's table takes E thrown at pc: the rows ahead don't -/
def HX (mi : MI) (pc : Nat) (E : String) (pre : List (Nat × Nat × Nat × Nat)) (t : Nat × Nat × Nat × Nat) : Prop :=
  (∃ suf, mi.2.2.2.2 = pre ++ t :: suf) ∧ (∀ z ∈ pre, z.2.2.2 ≠ 0 ∧ ∃ nm, Cond.classLink mi.1.cls z.2.2.2 nm ∈ lw_tbl ∧ (E, nm) ∈ ncs) ∧ covers ⟨t.1, t.2.1, t.2.2.1, t.2.2.2⟩ pc = true ∧ t.2.2.2 ≠ 0 ∧ ∃ nm, Cond.classLink mi.1.cls t.2.2.2 nm ∈ lw_tbl ∧ Cond.castable E nm ∈ lw_tbl
/-- behind a call, in a method with handlers -/
theorem AF.behindH {F0' : AH} {bc0 bs0 mc' ms' : Nat} {R' : AR → AH → Prop} {p : Program} {e : Env} {Rm : Room} {s : State} {m : MethodId} {args a : Array Value} {below : List Frame} {meth : Method} {c : Code} {mc ms : Nat} {H : Heap} {locs : List Loc} {cells slots : Nat} {ls0 : Array Slot} {st0 rest : List Value}
    (hC : Cf G mi d bc0 bs0 F0' ls p e Rm s m args below meth c mc ms H locs cells slots ls0) (h1 : bc0 = bc + mc') (h2 : bs0 = bs + ms')
    (hr : vx_Run p G.1 e Rm s m args below meth c H locs cells slots mc' ms' (F0 m pc ls0 st0) rest (QC G R' a) (QX G R') (gA G))
    (kx : ∀ E F', R' (.inr E) F' → ∃ pre t, HX mi pc E pre t ∧ ∀ q, AF G mi d bc bs R F' t.2.2.1 ls [.ref q])
    (k : ∀ v F', R' (.inl v) F' → AF G mi d bc bs R F' (pc + 3) ls (v.toList ++ rest)) : W p G.1 e Rm s m args below meth c H locs cells slots (vx_MQ below (QC G R) (QX G R) args s mc ms (gA G)) (F0 m pc ls0 st0) := by
  intro T hT X
  have hC' := hC.pay h1 h2
  rcases hr T hT X with ⟨v, st₀, t, T', L, h0, X', hL, e1, e2, ⟨v', F', q1, q2, q3, q4⟩, st⟩ | ⟨q, st₀, t, T', L, E, ce, h0, X', hL, e1, e2, ⟨F', q2, q3, q4⟩, hce, hcv, hcl, st⟩
  · cases q1
    rw [h0] at q4
    rw [← e1] at q3 q4
    obtain ⟨t2, a1, b1⟩ := k v F' q2 _ _ _ _ _ _ _ _ _ _ _ _ _ _ _ _ (hC'.heap (locs' := locs ++ L) q3 q4 (fun z hz => (List.mem_append.mp hz).elim (hC.2.2.2.1 z) (hL z))) T' rfl X'
    exact ⟨t2, st t2 a1, b1⟩
  · rw [h0] at q4
    rw [← e1] at q3 q4 hce
    have hC2 := hC'.heap (locs' := locs ++ L) q3 q4 (fun z hz => (List.mem_append.mp hz).elim (hC.2.2.2.1 z) (hL z))
    obtain ⟨pre, tt, ⟨⟨suf, hsp⟩, hpre, hcov, hnz, nm, hlk, hcast⟩, kk⟩ := kx E F' q2
    have hG := hC.2.1.1
    have hW := hC.2.1.2.1
    have kk2 : vx_W p G.1 e Rm s m args below meth c T'.heap (locs ++ L) (cells + mc') (slots + ms') (vx_MQ below (QC G R) (QX G R) args s mc ms (gA G)) (F0 m pc ls0 rest) q := by
      refine vx_catch (E := E) (ce := ce) (own := mi.1.cls) (name := nm) hC.1.2.2.2.2.2.2.1 (tableOf pre) ⟨tt.1, tt.2.1, tt.2.2.1, tt.2.2.2⟩ (tableOf suf) (by rw [hC.1.2.2.2.2.2.2.2, hsp]; simp [tableOf]) ?_ hcov hnz (gw hG hW hlk rfl) (gwT hG hW hcast rfl rfl) hce hcv hcl (kk q _ _ _ _ _ _ _ _ _ _ _ _ _ _ _ _ hC2)
      intro z hz
      obtain ⟨z9, hz9, rfl⟩ := List.mem_map.mp hz
      obtain ⟨g1, nm9, g2, g3⟩ := hpre z9 hz9
      exact Or.inr ⟨g1, nm9, gw hG hW g2 rfl, va_Nc.moved hW.alike (hG.2.2.2.2.2.2.2 _ g3)⟩
    obtain ⟨t2, a1, b1⟩ := kk2 T' rfl X'
    exact ⟨t2, st.trans a1, b1⟩
theorem AF.callVH {mi' : MI} {idx n ci d' mc' ms' b : Nat} {As rest : List Value} {fs : List Value} {R' : AR → AH → Prop} (hd : decode mi.2.1 pc = .ok (.invokevirtual idx, 3)) (hk : KV mi.1.cls idx mi' n) (hM : AC G mi' d' mc' ms' (.ref b :: As) F R') (hF : F.2 b = some (.inr (ci, fs))) (hci : (cls[ci]?).map (fun q => q.1) = some mi'.1.cls) (hn : As.length = n) (hst : st = As.reverse ++ .ref b :: rest) (hw : (rest.map fun v => v.category).sum ≤ 8) (hdd : d' + 1 ≤ d)
    (kx : ∀ E F', R' (.inr E) F' → ∃ pre t, HX mi pc E pre t ∧ ∀ q, AF G mi d bc bs R F' t.2.2.1 ls [.ref q]) (k : ∀ v F', R' (.inl v) F' → AF G mi d bc bs R F' (pc + 3) ls (v.toList ++ rest)) : AF G mi d (bc + mc') (bs + ms') R F pc ls st := by
  intro p e Rm s m args below meth c mc ms H locs cells slots ls0 hC
  obtain ⟨hh, ⟨w1, w2, w3, w4, w5⟩, hy, hpl, h40⟩ := hk
  have hG := hC.2.1.1
  have hW := hC.2.1.2.1
  obtain ⟨a1, a2, a3, a4⟩ := hC.rm hdd h40
  obtain ⟨b1, b2⟩ := acw_code mi' hh hG hW w5
  obtain ⟨r, h1, cell, q1, q2, q3, q4⟩ := hC.2.2.1.2.2.2 b _ hF
  have hr : r.1 = mi'.1.cls := by rw [h1] at hci; exact Option.some.inj hci
  obtain ⟨-, hfc, -⟩ := (gK hG hW).1 ci _ h1
  exact AF.behindH hC rfl rfl (vx_runV (C := mi'.1.cls) (Ts := []) (y := mi'.1) (bytes := mi'.2.1) (maxL := mi'.2.2.1) (ret := mi'.2.2.2.1) (n := n) (As := As) (rest := rest) hC.fix hM ⟨⟨rfl, rfl, a1, a2, b1, b2, gw hG hW w5 rfl, gw hG hW w4 rfl, hy, plen hpl, gw hG hW w1 rfl⟩, gw hG hW w2 rfl, gw hG hW w3 rfl⟩ ⟨acp_blind, ⟨cell, q1, by rw [q3]; rfl, by rw [q2, ← hr]; exact hfc⟩, acp_run hC⟩ rfl hn hC.2.2.2.2.1.1 hst (by simpa using hw) hd ⟨a3, a4⟩) kx k
/-- a method with handlers, over a picture -/
theorem AC.ofH {mc ms : Nat} {args : List Value} (ls : List (Option Value)) {x : Nat × Nat × Nat × Nat} {xs : List (Nat × Nat × Nat × Nat)} (hh : mi.2.2.2.2 = x :: xs) (hy : plainName mi.1.cls = true) (hfit : (lg_sl args).length ≤ mi.2.2.1) (hls : lx ls = lv_args 0 args) (k : AF G mi d mc ms R F 0 ls []) : AC G mi d mc ms args F R := by
  have hw : acw mi = Cond.codeWith mi.1 mi.2.1 mi.2.2.1 mi.2.2.2.1 mi.2.2.2.2 :: [] := by unfold acw; rw [hh]
  refine vx_ofWH (cc := mi.2.1) (maxL := mi.2.2.1) (ret := mi.2.2.2.1) (hh := mi.2.2.2.2) (ws' := []) hy hw ?_
  intro p e s m a below meth c s₁ B hml hP
  obtain ⟨rfl, hG, hW, hWd⟩ := hP
  have hl := lv_entry args (n := mi.2.2.1) hfit
  rw [lg_entry_eq]
  have hnm := name_of_methodNamed B.named B.method
  have hts := atoms_spec (ws := acw mi) B.pre
  have htb : c.exceptionTable.toList = tableOf mi.2.2.2.2 := vx_table (x := mi.1) B (hts _ (by rw [hw]; exact List.mem_cons_self))
  refine k _ _ _ _ _ _ _ _ _ mc ms _ _ _ _ _ ⟨⟨B.exec, B.bytes, B.returns, hml, hnm.1, B.notSynchronized, findClass_of_methodNamed B.named, htb⟩, ⟨hG, hW, by rw [hWd.1]; exact hWd.2.1, hWd.2.2.1, Nat.le_refl _⟩, hWd, fun z hz => absurd hz List.not_mem_nil, by rw [hls]; exact hl, ?_⟩
  exact ⟨Nat.le_refl _, Nat.le_refl _, Nat.le_of_eq (Nat.zero_add _), Nat.le_of_eq (Nat.zero_add _), Nat.le_refl _, Nat.le_refl _⟩
def KSX (own : String) (idx : Nat) (mi : MI) (n : Nat) : Prop := (∃ x xs, mi.2.2.2.2 = x :: xs) ∧ (Cond.methodLink own idx mi.1 ∈ lw_tbl ∧ Cond.static mi.1 ∈ lw_tbl ∧ Cond.initialized mi.1.cls ∈ lw_tbl ∧ Cond.codeWith mi.1 mi.2.1 mi.2.2.1 mi.2.2.2.1 mi.2.2.2.2 ∈ lw_tbl) ∧ (mi.1.cls ≠ "java/lang/invoke/MethodHandle" ∧ mi.1.cls ≠ "java/lang/invoke/VarHandle") ∧ (parseMethodDescriptor mi.1.desc).map (fun d => d.parameters.length) = some n ∧ mi.2.2.1 ≤ 40
theorem AF.callSX {mi' : MI} {idx n d' mc' ms' : Nat} {As rest : List Value} {R' : AR → AH → Prop} (hd : decode mi.2.1 pc = .ok (.invokestatic idx, 3)) (hk : KSX mi.1.cls idx mi' n) (hM : AC G mi' d' mc' ms' As F R') (hn : As.length = n) (hst : st = As.reverse ++ rest) (hw : (rest.map fun v => v.category).sum ≤ 8) (hdd : d' + 1 ≤ d) (hx : mi.2.2.2.2 = [])
    (kx : ∀ E F', R' (.inr E) F' → R (.inr E) F') (k : ∀ v F', R' (.inl v) F' → AF G mi d bc bs R F' (pc + 3) ls (v.toList ++ rest)) : AF G mi d (bc + mc') (bs + ms') R F pc ls st := by
  intro p e Rm s m args below meth c mc ms H locs cells slots ls0 hC
  obtain ⟨⟨x, xs, hh⟩, ⟨w1, w2, w4, w5⟩, hy, hpl, h40⟩ := hk
  have hG := hC.2.1.1
  have hW := hC.2.1.2.1
  obtain ⟨a1, a2, a3, a4⟩ := hC.rm hdd h40
  have hac : acw mi' = Cond.codeWith mi'.1 mi'.2.1 mi'.2.2.1 mi'.2.2.2.1 mi'.2.2.2.2 :: [] := by unfold acw; rw [hh]
  have b1 : ∀ w ∈ acw mi', ∀ (a' : Array Value) (U : State), s.WarmedH U.vm → w.before a' U = true := by
    intro w hw a' U hU
    rw [hac, List.mem_singleton] at hw
    subst hw
    exact gw hG (State.WarmedH.trans hW hU) w5 rfl
  exact AF.behind hC rfl rfl (vx_runSX (hh := mi'.2.2.2.2) (Ts := []) (y := mi'.1) (bytes := mi'.2.1) (maxL := mi'.2.2.1) (ret := mi'.2.2.2.1) (n := n) (As := As) (rest := rest) hC.fix hM ⟨⟨rfl, rfl, a1, a2, b1, by rw [hac]; exact List.mem_cons_self⟩, gw hG hW w5 rfl, gw hG hW w4 rfl, hy, plen hpl, gw hG hW w1 rfl, gw hG hW w2 rfl⟩ ⟨acp_blind, acp_run hC⟩ rfl hn hC.2.2.2.2.1.1 hst (by simpa using hw) hd ⟨a3, a4⟩) hx kx k
end AFL
