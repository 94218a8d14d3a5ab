/-! The layer: calls up to a superclass, private calls, inherited calls, of the run's own objects. -/
section AFP0
variable {p : Program} {l : Launch} {e : Env} {R : Room} {s : State} {m : MethodId} {args : Array Value} {below : List Frame} {meth : Method} {c : Code} {H : Heap} {locs : List Loc} {cells slots : Nat}
theorem prv_run {y : MethodName} {bytes cc : ByteArray} {maxL nL mc ms n index : Nat} {ret : Option FieldType} {ws : List Cond} {rm : Room} {Pc : Array Value → State → Prop} {Qc : Array Value → State → Outcome → State → Prop} {free : Addr → Prop} {Ts : List Cond} {own C : String} {b : Addr} {As rest : List Value} {g : JFrame}
    (S : CallFix p m c cc nL s args Ts own) (hM : Met l y ws rm Pc Qc mc ms free) (hrc : rm.cells = mc) (hrs : rm.slots = ms) (hfr : rm.frames + 1 ≤ R.frames) (hlo : 8 + (maxL + 11) + rm.locals ≤ R.locals)
    (hws : ∀ w ∈ ws, ∀ (a' : Array Value) (U : State), s.WarmedH U.vm → w.before a' U = true) (hcw : Cond.code y bytes maxL ret ∈ ws) (hlink : (Cond.methodLink own index y).before args s = true) (hsame : (Cond.sameMethod y.cls y.cls y.name y.desc).before args s = true) (hprv : (Cond.privateMethod y).before args s = true) (hinst : (Cond.instanceMethod y).before args s = true) (hini : (Cond.initialized y.cls).before args s = true) (hcode : (Cond.code y bytes maxL ret).before args s = true) (hy : y.cls ≠ "java/lang/invoke/MethodHandle" ∧ y.cls ≠ "java/lang/invoke/VarHandle") (hlen : ∀ sig, parseMethodDescriptor y.desc = some sig → n = sig.parameters.length)
    (hp : PreV s H C b Pc As) (hg : g.method = m) (hn : As.length = n) (hsize : g.locals.size = nL) (hstack : g.stack = As.reverse ++ .ref b :: rest) (hW : 2 * g.monitorRoom + (rest.map fun v => v.category).sum ≤ 8) (hdg : decode cc g.pc = .ok (.invokevirtual index, 3)) (hf : cells + mc ≤ R.cells ∧ slots + ms ≤ R.slots) :
    va_Run p l e R s m args below meth c H locs cells slots mc ms g rest (Qc (Value.ref b :: As).toArray) (free) := by
  have hK : Back l R p e below s args y 3 8 (PreOf R mc ms Pc) (PostOf Qc mc ms free) := back_of (bytes := bytes) (maxL := maxL) (ret := ret) hM hp.1 hrc hrs hfr hlo hws hcw (fun a' U hW => word_at hW (Or.inl (by first | rfl | simp [Cond.onTables, Cond.keeps, Cond.steady])) hini)
  obtain ⟨hx, hb, hml, ho, -⟩ := S
  obtain ⟨-, ⟨cellB, hcB, hoB, hclB⟩, hPc⟩ := hp
  obtain ⟨mk, methM, hnamed, hmethM, hstM, habM⟩ := Cond.instanceMethod_spec hinst
  obtain ⟨methM', cM, hmethM', -, -, -, -, -, -, hsigM⟩ := Cond.code_spec hnamed hcode
  cases hmethM.symm.trans hmethM'
  obtain ⟨cn, ck, r1, hcn, hck, hni, hfnd, hn1⟩ := Cond.sameMethod_found hsame
  have hcl : s.vm.findClass y.cls = some mk.cls := findClass_of_methodNamed hnamed
  cases hcn.symm.trans hcl
  have hselP : selectMethod e.platform s.vm cellB.cls mk = .method mk := selectMethod_private hmethM (Cond.privateMethod_at hprv mk methM hnamed hmethM)
  intro T hT X
  obtain ⟨vm₁, X₁, hstep₁⟩ := X.invokevirtualUp hx ho hlink hsame hy hnamed hmethM hstM (a := b) (cell := cellB) (by rw [hT]; exact hcB) (fun z h => by rw [h] at hoB; cases hoB) hselP hmethM habM hck hni (g := g) hg (argsL := As) (rest := rest) (hn.trans (hlen _ hsigM)) hstack (by rw [hb]; exact hdg)
  obtain ⟨v, ⟨U', l2, c2, s2⟩, X', ⟨g', mk', t, L, e1, e2, hq, h1, hL, h2, h3⟩, st⟩ := hK m meth c ⟨T.setVm vm₁, locs, cells, slots⟩ { g with stack := rest } (.invokevirtual index) mk (Value.ref b :: As).toArray X₁ hg (hsize.trans hml.symm) (by rw [hb]; exact hdg) hW (X₁.named hnamed) ⟨hf.1, hf.2, hPc (T.setVm vm₁) hT X₁.warmed⟩
  dsimp only [Pt.U, Pt.locs, Pt.cells, Pt.slots] at X' e1 e2 h1 h2 h3 st
  subst h1; subst h2; subst h3
  exact ⟨v, (T.setVm vm₁).calling g' mk' (Value.ref b :: As).toArray, t, U', L, hT, X', hL, e1, e2, hq, fun target h => hstep₁ _ fun acts => by rw [doInvoke_state]; exact st.trans h⟩
end AFP0
section AFP
variable {G : GA} {mi : MI} {d bc bs : Nat} {R : AR → AH → Prop} {F : AH} {pc : Nat} {ls : List (Option Value)} {st : List Value}
/-- a private method, called on this -/
def KP (own : String) (idx : Nat) (mi : MI) (n : Nat) : Prop := mi.2.2.2.2 = [] ∧ (Cond.methodLink own idx mi.1 ∈ lw_tbl ∧ Cond.sameMethod mi.1.cls mi.1.cls mi.1.name mi.1.desc ∈ lw_tbl ∧ Cond.privateMethod mi.1 ∈ lw_tbl ∧ Cond.instanceMethod mi.1 ∈ lw_tbl ∧ Cond.initialized mi.1.cls ∈ lw_tbl ∧ Cond.code mi.1 mi.2.1 mi.2.2.1 mi.2.2.2.1 ∈ lw_tbl) ∧ (mi.1.cls ≠ "java/lang/invoke/MethodHandle" ∧ mi.1.cls ≠ "java/lang/invoke/VarHandle") ∧ (parseMethodDescriptor mi.1.desc).map (fun d => d.parameters.length) = some n ∧ mi.2.2.1 ≤ 40
/-- the superclass's method -/
def KSU (own : String) (idx : Nat) (mi : MI) (n : Nat) : Prop := mi.2.2.2.2 = [] ∧ (Cond.methodLink own idx mi.1 ∈ lw_tbl ∧ Cond.sameMethod mi.1.cls mi.1.cls mi.1.name mi.1.desc ∈ lw_tbl ∧ Cond.superclass own mi.1.cls ∈ lw_tbl ∧ Cond.instanceMethod mi.1 ∈ lw_tbl ∧ Cond.initialized mi.1.cls ∈ lw_tbl ∧ Cond.code mi.1 mi.2.1 mi.2.2.1 mi.2.2.2.1 ∈ lw_tbl) ∧ mi.1.name ≠ "<init>" ∧ (parseMethodDescriptor mi.1.desc).map (fun d => d.parameters.length) = some n ∧ mi.2.2.1 ≤ 40
theorem AF.callPV {mi' : MI} {idx n ci d' mc' ms' b : Nat} {As rest : List Value} {fs : List Value} {R' : AR → AH → Prop} (hd : decode mi.2.1 pc = .ok (.invokevirtual idx, 3)) (hk : KP mi.1.cls idx mi' n) (hM : AC G mi' d' mc' ms' (.ref b :: As) F R') (hF : F.2 b = some (.inr (ci, fs))) (hn : As.length = n) (hst : st = As.reverse ++ .ref b :: rest) (hw : (rest.map fun v => v.category).sum ≤ 8) (hdd : d' + 1 ≤ d) (hx : mi.2.2.2.2 = [])
    (kx : ∀ E F', ¬ R' (.inr E) F') (k : ∀ v F', R' (.inl v) F' → AF G mi d bc bs R F' (pc + 3) ls (v.toList ++ rest)) : AF G mi d (bc + mc') (bs + ms') R F pc ls st := by
  intro p e Rm s m args below meth c mc ms H locs cells slots ls0 hC
  obtain ⟨hh, ⟨w1, w2, w3, w4, w5, w6⟩, hy, hpl, h40⟩ := hk
  have hG := hC.2.1.1
  have hW := hC.2.1.2.1
  obtain ⟨a1, a2, a3, a4⟩ := hC.rm hdd h40
  obtain ⟨b1, b2⟩ := acw_code mi' hh hG hW w6
  obtain ⟨r, h1, cell, q1, q2, q3, q4⟩ := hC.2.2.1.2.2.2 b _ hF
  obtain ⟨-, hfc, -⟩ := (gK hG hW).1 ci _ h1
  exact AF.behind hC rfl rfl (run_x (prv_run (C := r.1) (Ts := []) (y := mi'.1) (bytes := mi'.2.1) (maxL := mi'.2.2.1) (ret := mi'.2.2.2.1) (n := n) (As := As) (rest := rest) hC.fix (hM.met kx) rfl rfl a1 a2 b1 b2 (gw hG hW w1 rfl) (gw hG hW w2 rfl) (gwT hG hW w3 rfl rfl) (gw hG hW w4 rfl) (gw hG hW w5 rfl) (gw hG hW w6 rfl) hy (plen hpl) ⟨acp_blind, ⟨cell, q1, by rw [q3]; rfl, by rw [q2]; exact hfc⟩, acp_run hC⟩ rfl hn hC.2.2.2.2.1.1 hst (by simpa using hw) hd ⟨a3, a4⟩)) hx (fun E F' q => absurd q (kx E F')) k
theorem AF.callSU {mi' : MI} {idx n ci d' mc' ms' b : Nat} {As rest : List Value} {fs : List Value} {R' : AR → AH → Prop} (hd : decode mi.2.1 pc = .ok (.invokespecial idx, 3)) (hk : KSU mi.1.cls idx mi' n) (hM : AC G mi' d' mc' ms' (.ref b :: As) F R') (hF : F.2 b = some (.inr (ci, fs))) (hn : As.length = n) (hst : st = As.reverse ++ .ref b :: rest) (hw : (rest.map fun v => v.category).sum ≤ 8) (hdd : d' + 1 ≤ d) (hx : mi.2.2.2.2 = [])
    (kx : ∀ E F', ¬ R' (.inr E) F') (k : ∀ v F', R' (.inl v) F' → AF G mi d bc bs R F' (pc + 3) ls (v.toList ++ rest)) : AF G mi d (bc + mc') (bs + ms') R F pc ls st := by
  intro p e Rm s m args below meth c mc ms H locs cells slots ls0 hC
  obtain ⟨hh, ⟨w1, w2, w3, w4, w5, w6⟩, hy, hpl, h40⟩ := hk
  have hG := hC.2.1.1
  have hW := hC.2.1.2.1
  obtain ⟨a1, a2, a3, a4⟩ := hC.rm hdd h40
  obtain ⟨b1, b2⟩ := acw_code mi' hh hG hW w6
  obtain ⟨r, h1, cell, q1, q2, q3, q4⟩ := hC.2.2.1.2.2.2 b _ hF
  obtain ⟨-, hfc, kC, hkC, hkind⟩ := (gK hG hW).1 ci _ h1
  exact AF.behind hC rfl rfl (run_x (va_runSU (C := r.1) (Ts := []) (y := mi'.1) (bytes := mi'.2.1) (maxL := mi'.2.2.1) (ret := mi'.2.2.2.1) (n := n) (As := As) (rest := rest) ⟨hfc, kC, hkC, hkind⟩ hC.fix (hM.met kx) ⟨⟨rfl, rfl, a1, a2, b1, b2⟩, gw hG hW w1 rfl, gw hG hW w2 rfl, gw hG hW w3 rfl, gw hG hW w4 rfl, gw hG hW w5 rfl, gw hG hW w6 rfl, hy, plen hpl⟩ ⟨acp_blind, ⟨cell, q1, by rw [q3]; rfl, by rw [q2]; exact hfc⟩, acp_run hC⟩ rfl hn hC.2.2.2.2.1.1 hst (by simpa using hw) hd ⟨a3, a4⟩)) hx (fun E F' q => absurd q (kx E F')) k
/-- an inherited method, of the run's own object -/
theorem AF.callUA {mi' : MI} {C owner : String} {x : MethodName} {idx n ci d' mc' ms' b : Nat} {As rest : List Value} {fs : List Value} {R' : AR → AH → Prop} (hd : decode mi.2.1 pc = .ok (.invokevirtual idx, 3)) (hk : KU mi.1.cls idx C owner x mi' n) (hM : AC G mi' d' mc' ms' (.ref b :: As) F R') (hF : F.2 b = some (.inr (ci, fs))) (hci : (cls[ci]?).map (fun q => q.1) = some C) (hn : As.length = n) (hst : st = As.reverse ++ .ref b :: rest) (hw : (rest.map fun v => v.category).sum ≤ 8) (hdd : d' + 1 ≤ d) (hx : mi.2.2.2.2 = [])
    (kx : ∀ E F', ¬ R' (.inr E) F') (k : ∀ v F', R' (.inl v) F' → AF G mi d bc bs R F' (pc + 3) ls (v.toList ++ rest)) : AF G mi d (bc + mc') (bs + ms') R F pc ls st := by
  intro p e Rm s m args below meth c mc ms H locs cells slots ls0 hC
  obtain ⟨hh, hyx, ⟨w1, w2, w3, w4, w5, w6⟩, hy, hpl, h40⟩ := hk
  have hG := hC.2.1.1
  have hW := hC.2.1.2.1
  obtain ⟨a1, a2, a3, a4⟩ := hC.rm hdd h40
  obtain ⟨b1, b2⟩ := acw_code mi' hh hG hW w6
  obtain ⟨r, h1, cell, q1, q2, q3, q4⟩ := hC.2.2.1.2.2.2 b _ hF
  have hr : r.1 = C := by rw [h1] at hci; exact Option.some.inj hci
  obtain ⟨-, hfc, -⟩ := (gK hG hW).1 ci _ h1
  have hdec : va_Decl s ⟨owner, x.name, x.desc⟩ := by
    rw [← hyx]
    exact va_Decl.of (args := args) (gw hG hW w4 rfl) (gw hG hW w6 rfl)
  refine AF.behind hC rfl rfl (run_x (va_runU (C := C) (owner := owner) (x := x) (Ts := []) (y := mi'.1) (bytes := mi'.2.1) (maxL := mi'.2.2.1) (ret := mi'.2.2.2.1) (n := n) (As := As) (rest := rest) hC.fix (hM.met kx) ⟨⟨rfl, rfl, a1, a2, b1, b2⟩, gw hG hW w6 rfl, gw hG hW w5 rfl, hy, plen hpl, gw hG hW w1 rfl, gw hG hW w2 rfl, hdec, gw hG hW w3 rfl, gw hG hW w4 rfl⟩ ⟨acp_blind, ⟨cell, q1, by rw [q3]; rfl, by rw [q2, ← hr]; exact hfc⟩, acp_run hC⟩ rfl hn hC.2.2.2.2.1.1 hst (by simpa using hw) hd ⟨a3, a4⟩)) hx (fun E F' q => absurd q (kx E F')) k
end AFP

