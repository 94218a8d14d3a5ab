/-! The layer: ends, calls, throws. -/
section AFE
variable {G : GA} {mi : MI} {d bc bs : Nat} {R : AR → AH → Prop} {F : AH} {pc : Nat} {ls : List (Option Value)} {st : List Value}
theorem Cf.QC {p : Program} {e : Env} {Rm : Room} {s : State} {m : MethodId} {args : Array Value} {below : List Frame} {meth : Method} {c : Code} {mc ms : Nat} {H : Heap} {locs : List Loc} {cells slots : Nat} {ls0 : Array Slot} (hC : Cf G mi d bc bs F ls p e Rm s m args below meth c mc ms H locs cells slots ls0) {v : Option Value} (h : R (.inl v) F) : ∀ t : State, t.heap = H → s.WarmedH t.vm → QC G R args s (.returned v) t :=
  fun t ht _ => ⟨v, F, rfl, h, by rw [ht]; exact hC.2.2.1, by rw [ht]; exact hC.2.1.2.2.2.2⟩
theorem Cf.w1 {p : Program} {e : Env} {Rm : Room} {s : State} {m : MethodId} {args : Array Value} {below : List Frame} {meth : Method} {c : Code} {mc ms : Nat} {H : Heap} {locs : List Loc} {cells slots : Nat} {ls0 : Array Slot} (hC : Cf G mi d bc bs F ls p e Rm s m args below meth c mc ms H locs cells slots ls0) : cells ≤ mc := by have := hC.2.2.2.2.2.2.2.1; omega
theorem Cf.w2 {p : Program} {e : Env} {Rm : Room} {s : State} {m : MethodId} {args : Array Value} {below : List Frame} {meth : Method} {c : Code} {mc ms : Nat} {H : Heap} {locs : List Loc} {cells slots : Nat} {ls0 : Array Slot} (hC : Cf G mi d bc bs F ls p e Rm s m args below meth c mc ms H locs cells slots ls0) : slots ≤ ms := by have := hC.2.2.2.2.2.2.2.2.1; omega
theorem AF.ireturn {v : Int32} (hd : decode mi.2.1 pc = .ok (.ireturn, 1)) (hr : mi.2.2.2.1 = some .int) (h : R (.inl (some (.int v))) F) : AF G mi d bc bs R F pc ls [.int v] := by
  intro p e Rm s m args below meth c mc ms H locs cells slots ls0 hC
  refine vx_ret (W.widen hC.w1 hC.w2 ?_)
  exact W.iret hC.1.1 hC.1.2.1 (hC.1.2.2.1.trans hr) (hC.QC h) hC.2.2.2.1 hd hC.1.2.2.2.2.2.1
theorem AF.lreturn {v : Int64} (hd : decode mi.2.1 pc = .ok (.lreturn, 1)) (hr : mi.2.2.2.1 = some .long) (h : R (.inl (some (.long v))) F) : AF G mi d bc bs R F pc ls [.long v] := by
  intro p e Rm s m args below meth c mc ms H locs cells slots ls0 hC
  refine vx_ret (W.widen hC.w1 hC.w2 ?_)
  exact W.lret hC.1.1 hC.1.2.1 (hC.1.2.2.1.trans hr) (hC.QC h) hC.2.2.2.1 hd hC.1.2.2.2.2.2.1
theorem AF.dreturn {v : UInt64} (hd : decode mi.2.1 pc = .ok (.dreturn, 1)) (hr : mi.2.2.2.1 = some .double) (h : R (.inl (some (.double v))) F) : AF G mi d bc bs R F pc ls [.double v] := by
  intro p e Rm s m args below meth c mc ms H locs cells slots ls0 hC
  refine vx_ret (W.widen hC.w1 hC.w2 ?_)
  exact W.dret hC.1.1 hC.1.2.1 (hC.1.2.2.1.trans hr) (hC.QC h) hC.2.2.2.1 hd hC.1.2.2.2.2.2.1
theorem AF.freturn {v : UInt32} (hd : decode mi.2.1 pc = .ok (.freturn, 1)) (hr : mi.2.2.2.1 = some .float) (h : R (.inl (some (.float v))) F) : AF G mi d bc bs R F pc ls [.float v] := by
  intro p e Rm s m args below meth c mc ms H locs cells slots ls0 hC
  refine vx_ret (W.widen hC.w1 hC.w2 ?_)
  exact W.fret hC.1.1 hC.1.2.1 (hC.1.2.2.1.trans hr) (hC.QC h) hC.2.2.2.1 hd hC.1.2.2.2.2.2.1
theorem AF.zreturn {v : Int32} {ty : FieldType} (hd : decode mi.2.1 pc = .ok (.ireturn, 1)) (hr : mi.2.2.2.1 = some ty) (hn : narrow ty (.int v) = .int v) (h : R (.inl (some (.int v))) F) : AF G mi d bc bs R F pc ls [.int v] := by
  intro p e Rm s m args below meth c mc ms H locs cells slots ls0 hC
  refine vx_ret (W.widen hC.w1 hC.w2 ?_)
  exact W.zret hC.1.1 hC.1.2.1 (hC.1.2.2.1.trans hr) hn (hC.QC h) hC.2.2.2.1 hd hC.1.2.2.2.2.2.1
theorem AF.areturn {v : Value} {rt : FieldType} (hd : decode mi.2.1 pc = .ok (.areturn, 1)) (hr : mi.2.2.2.1 = some rt) (hrt : (∃ n, rt = .object n) ∨ ∃ t, rt = .array t) (hv : v = .null ∨ ∃ a, v = .ref a) (h : R (.inl (some v)) F) : AF G mi d bc bs R F pc ls [v] := by
  intro p e Rm s m args below meth c mc ms H locs cells slots ls0 hC
  refine vx_ret (W.widen hC.w1 hC.w2 ?_)
  exact W.aret hC.1.1 hC.1.2.1 (hC.1.2.2.1.trans hr) hrt hv (hC.QC h) hC.2.2.2.1 hd hC.1.2.2.2.2.2.1
theorem AF.vreturn (hd : decode mi.2.1 pc = .ok (.return_, 1)) (hr : mi.2.2.2.1 = none) (h : R (.inl none) F) : AF G mi d bc bs R F pc ls [] := by
  intro p e Rm s m args below meth c mc ms H locs cells slots ls0 hC
  refine vx_ret (W.widen hC.w1 hC.w2 ?_)
  exact W.vret hC.1.1 hC.1.2.1 (hC.1.2.2.1.trans hr) (hC.QC h) hC.2.2.2.1 hd hC.1.2.2.2.2.2.1
/-- a method over a picture: from any start where the heap is as F says, with these arguments, it comes to an end, and R holds of it -/
def acw (mi : MI) : List Cond := match mi.2.2.2.2 with
  | [] => [Cond.code mi.1 mi.2.1 mi.2.2.1 mi.2.2.2.1]
  | hh => [Cond.codeWith mi.1 mi.2.1 mi.2.2.1 mi.2.2.2.1 hh]
def acp (G : GA) (args : List Value) (F : AH) : Array Value → State → Prop := fun a U => a = args.toArray ∧ GOK G ∧ G.2.1.WarmedH U.vm ∧ Wd G F U.heap
def acr (d mc ms : Nat) : Room := { frames := d, cells := mc, slots := ms, locals := 64 * d }
def AC (G : GA) (mi : MI) (d mc ms : Nat) (args : List Value) (F : AH) (R : AR → AH → Prop) : Prop :=
  vx_Met G.1 mi.1 (acw mi) (acr d mc ms) (acp G args F) (QC G R) (QX G R) mc ms (gA G)
theorem acp_blind {G : GA} {args : List Value} {F : AH} : FrameBlind (acp G args F) := fun _ _ _ _ q => q
theorem AC.of {mc ms : Nat} {args : List Value} (ls : List (Option Value)) (hh : mi.2.2.2.2 = []) (hy : plainName mi.1.cls = true) (hfit : (lg_sl args).length ≤ mi.2.2.1) (hls : lx ls = lv_args 0 args) (k : AF G mi d mc ms R F 0 ls []) : AC G mi d mc ms args F R := by
  refine vx_ofW (cc := mi.2.1) (maxL := mi.2.2.1) (ret := mi.2.2.2.1) (ws' := []) hy (by unfold acw; rw [hh]) ?_
  intro p e s m a below meth c s₁ B hml ht hP
  obtain ⟨rfl, hG, hW, hWd⟩ := hP
  have hl := lv_entry args (n := mi.2.2.1) hfit
  rw [lg_entry_eq]
  have hnm := name_of_methodNamed B.named B.method
  have htb : c.exceptionTable.toList = tableOf mi.2.2.2.2 := by
    rw [hh]
    cases hx : c.exceptionTable.toList with
    | nil => rfl
    | cons x xs => exact (ht x (by rw [hx]; exact List.mem_cons_self)).elim
  refine k _ _ _ _ _ _ _ _ _ mc ms _ _ _ _ _ ⟨⟨B.exec, B.bytes, B.returns, hml, hnm.1, B.notSynchronized, findClass_of_methodNamed B.named, htb⟩, ⟨hG, hW, by rw [hWd.1]; exact hWd.2.1, hWd.2.2.1, Nat.le_refl _⟩, hWd, fun z hz => absurd hz List.not_mem_nil, by rw [hls]; exact hl, ?_⟩
  exact ⟨Nat.le_refl _, Nat.le_refl _, Nat.le_of_eq (Nat.zero_add _), Nat.le_of_eq (Nat.zero_add _), Nat.le_refl _, Nat.le_refl _⟩
theorem AC.imp {mc ms : Nat} {args : List Value} {R' : AR → AH → Prop} (h : ∀ r F, R' r F → R r F) (k : AC G mi d mc ms args F R') : AC G mi d mc ms args F R := by
  intro p e h1 h2 h3 s m a below h4 h5 h6 h7
  obtain ⟨n, o, q1, q2, q3, q4⟩ := k p e h1 h2 h3 s m a below h4 h5 h6 h7
  refine ⟨n, o, q1, q2, q3, ?_⟩
  rcases q4 with ⟨⟨v, F', c1, c2, c3⟩, q⟩ | ⟨z, c1, E, ce, L, ⟨F', c2, c3⟩, q⟩
  · exact Or.inl ⟨⟨v, F', c1, h _ _ c2, c3⟩, q⟩
  · exact Or.inr ⟨z, c1, E, ce, L, ⟨F', h _ _ c2, c3⟩, q⟩
/-- a method that does not throw, as the kit's plain contract -/
theorem AC.met {mc ms : Nat} {args : List Value} (hn : ∀ E F', ¬ R (.inr E) F') (k : AC G mi d mc ms args F R) : Met G.1 mi.1 (acw mi) (acr d mc ms) (acp G args F) (QC G R) mc ms (gA G) := by
  intro p e h1 h2 h3 s m a below h4 h5 h6 h7
  obtain ⟨n, o, q1, q2, q3, q4⟩ := k p e h1 h2 h3 s m a below h4 h5 h6 h7
  refine ⟨n, o, q1, q2, q3, ?_⟩
  rcases q4 with q | ⟨z, c1, E, ce, L, ⟨F', c2, c3⟩, q⟩
  · exact q
  · exact absurd c2 (hn E F')
/-- what a call needs of the tables: class own calls mi at entry idx of its pool -/
def KV (own : String) (idx : Nat) (mi : MI) (n : Nat) : Prop := mi.2.2.2.2 = [] ∧ (Cond.methodLink own idx mi.1 ∈ lw_tbl ∧ Cond.instanceMethod mi.1 ∈ lw_tbl ∧ Cond.selects mi.1.cls mi.1 mi.1 ∈ lw_tbl ∧ Cond.initialized mi.1.cls ∈ lw_tbl ∧ Cond.code mi.1 mi.2.1 mi.2.2.1 mi.2.2.2.1 ∈ lw_tbl) ∧ (mi.1.cls ≠ "java/lang/invoke/MethodHandle" ∧ mi.1.cls ≠ "java/lang/invoke/VarHandle") ∧ (parseMethodDescriptor mi.1.desc).map (fun d => d.parameters.length) = some n ∧ mi.2.2.1 ≤ 40
def KS (own : String) (idx : Nat) (mi : MI) (n : Nat) : Prop := mi.2.2.2.2 = [] ∧ (Cond.methodLink own idx mi.1 ∈ lw_tbl ∧ Cond.static mi.1 ∈ lw_tbl ∧ Cond.initialized mi.1.cls ∈ lw_tbl ∧ Cond.code mi.1 mi.2.1 mi.2.2.1 mi.2.2.2.1 ∈ lw_tbl) ∧ (mi.1.cls ≠ "java/lang/invoke/MethodHandle" ∧ mi.1.cls ≠ "java/lang/invoke/VarHandle") ∧ (parseMethodDescriptor mi.1.desc).map (fun d => d.parameters.length) = some n ∧ mi.2.2.1 ≤ 40
def KI (own : String) (idx : Nat) (mi : MI) (n : Nat) : Prop := mi.2.2.2.2 = [] ∧ (Cond.methodLink own idx mi.1 ∈ lw_tbl ∧ Cond.instanceMethod mi.1 ∈ lw_tbl ∧ mi.1.name = "<init>" ∧ mi.2.2.2.1 = none ∧ Cond.initialized mi.1.cls ∈ lw_tbl ∧ Cond.code mi.1 mi.2.1 mi.2.2.1 none ∈ lw_tbl) ∧ (mi.1.cls ≠ "java/lang/invoke/MethodHandle" ∧ mi.1.cls ≠ "java/lang/invoke/VarHandle") ∧ (parseMethodDescriptor mi.1.desc).map (fun d => d.parameters.length) = some n ∧ mi.2.2.1 ≤ 40
def KVN (own : String) (idx : Nat) (mi : MI) (n : Nat) (host : String) : Prop := mi.2.2.2.2 = [] ∧ (Cond.methodLinkNest own idx mi.1 host ∈ lw_tbl ∧ Cond.instanceMethod mi.1 ∈ lw_tbl ∧ Cond.selects mi.1.cls mi.1 mi.1 ∈ lw_tbl ∧ Cond.initialized mi.1.cls ∈ lw_tbl ∧ Cond.code mi.1 mi.2.1 mi.2.2.1 mi.2.2.2.1 ∈ lw_tbl) ∧ (mi.1.cls ≠ "java/lang/invoke/MethodHandle" ∧ mi.1.cls ≠ "java/lang/invoke/VarHandle") ∧ (parseMethodDescriptor mi.1.desc).map (fun d => d.parameters.length) = some n ∧ mi.2.2.1 ≤ 40
def KSN (own : String) (idx : Nat) (mi : MI) (n : Nat) (host : String) : Prop := mi.2.2.2.2 = [] ∧ (Cond.methodLinkNest own idx mi.1 host ∈ lw_tbl ∧ Cond.static mi.1 ∈ lw_tbl ∧ Cond.initialized mi.1.cls ∈ lw_tbl ∧ Cond.code mi.1 mi.2.1 mi.2.2.1 mi.2.2.2.1 ∈ lw_tbl) ∧ (mi.1.cls ≠ "java/lang/invoke/MethodHandle" ∧ mi.1.cls ≠ "java/lang/invoke/VarHandle") ∧ (parseMethodDescriptor mi.1.desc).map (fun d => d.parameters.length) = some n ∧ mi.2.2.1 ≤ 40
def KIN (own : String) (idx : Nat) (mi : MI) (n : Nat) (host : String) : Prop := mi.2.2.2.2 = [] ∧ (Cond.methodLinkNest own idx mi.1 host ∈ lw_tbl ∧ Cond.instanceMethod mi.1 ∈ lw_tbl ∧ mi.1.name = "<init>" ∧ mi.2.2.2.1 = none ∧ Cond.initialized mi.1.cls ∈ lw_tbl ∧ Cond.code mi.1 mi.2.1 mi.2.2.1 none ∈ lw_tbl) ∧ (mi.1.cls ≠ "java/lang/invoke/MethodHandle" ∧ mi.1.cls ≠ "java/lang/invoke/VarHandle") ∧ (parseMethodDescriptor mi.1.desc).map (fun d => d.parameters.length) = some n ∧ mi.2.2.1 ≤ 40
theorem plen {desc : String} {n : Nat} (h : (parseMethodDescriptor desc).map (fun d => d.parameters.length) = some n) : ∀ sig, parseMethodDescriptor desc = some sig → n = sig.parameters.length := by
  intro sig q
  rw [q] at h
  exact (Option.some.inj h).symm
/-- what comes behind a call: a return, or a throw that goes on to the caller -/
theorem AF.behind {F0' : AH} {bc0 bs0 mc' ms' : Nat} {R' : AR → AH → Prop} {p : Program} {e : Env} {Rm : Room} {s : State} {m : MethodId} {args a : Array Value} {below : List Frame} {meth : Method} {c : Code} {mc ms : Nat} {H : Heap} {locs : List Loc} {cells slots : Nat} {ls0 : Array Slot} {st0 rest : List Value}
    (hC : Cf G mi d bc0 bs0 F0' ls p e Rm s m args below meth c mc ms H locs cells slots ls0) (h1 : bc0 = bc + mc') (h2 : bs0 = bs + ms')
    (hr : vx_Run p G.1 e Rm s m args below meth c H locs cells slots mc' ms' (F0 m pc ls0 st0) rest (QC G R' a) (QX G R') (gA G))
    (hx : mi.2.2.2.2 = []) (kx : ∀ E F', R' (.inr E) F' → R (.inr E) F')
    (k : ∀ v F', R' (.inl v) F' → AF G mi d bc bs R F' (pc + 3) ls (v.toList ++ rest)) : W p G.1 e Rm s m args below meth c H locs cells slots (vx_MQ below (QC G R) (QX G R) args s mc ms (gA G)) (F0 m pc ls0 st0) := by
  intro T hT X
  have hC' := hC.pay h1 h2
  rcases hr T hT X with ⟨v, st₀, t, T', L, h0, X', hL, e1, e2, ⟨v', F', q1, q2, q3, q4⟩, st⟩ | ⟨q, st₀, t, T', L, E, ce, h0, X', hL, e1, e2, ⟨F', q2, q3, q4⟩, hce, hcv, hcl, st⟩
  · cases q1
    rw [h0] at q4
    rw [← e1] at q3 q4
    obtain ⟨t2, a1, b1⟩ := k v F' q2 _ _ _ _ _ _ _ _ _ _ _ _ _ _ _ _ (hC'.heap (locs' := locs ++ L) q3 q4 (fun z hz => (List.mem_append.mp hz).elim (hC.2.2.2.1 z) (hL z))) T' rfl X'
    exact ⟨t2, st t2 a1, b1⟩
  · rw [h0] at q4
    rw [← e1] at q3 q4 hce
    have hC2 := hC'.heap (locs' := locs ++ L) q3 q4 (fun z hz => (List.mem_append.mp hz).elim (hC.2.2.2.1 z) (hL z))
    have kk : vx_W p G.1 e Rm s m args below meth c T'.heap (locs ++ L) (cells + mc') (slots + ms') (vx_MQ below (QC G R) (QX G R) args s mc ms (gA G)) (F0 m pc ls0 rest) q := by
      refine vx_out (E := E) (ce := ce) ?_ hC.1.2.2.2.2.2.1 hce hcv hcl (fun t ht _ => ⟨F', kx E F' q2, by rw [ht]; exact q3, by rw [ht]; exact hC2.2.1.2.2.2.2⟩) hC2.2.2.2.1 hC2.w1 hC2.w2
      intro x hx9
      rw [hC.1.2.2.2.2.2.2.2, hx] at hx9
      cases hx9
    obtain ⟨t2, a1, b1⟩ := kk T' rfl X'
    exact ⟨t2, st.trans a1, b1⟩
theorem Cf.fix {p : Program} {e : Env} {Rm : Room} {s : State} {m : MethodId} {args : Array Value} {below : List Frame} {meth : Method} {c : Code} {mc ms : Nat} {H : Heap} {locs : List Loc} {cells slots : Nat} {ls0 : Array Slot} (hC : Cf G mi d bc bs F ls p e Rm s m args below meth c mc ms H locs cells slots ls0) : CallFix p m c mi.2.1 mi.2.2.1 s args [] mi.1.cls := ⟨hC.1.1, hC.1.2.1, hC.1.2.2.2.1, hC.1.2.2.2.2.2.2.1, fun _ h => nomatch h⟩
theorem acp_run {p : Program} {e : Env} {Rm : Room} {s : State} {m : MethodId} {args : Array Value} {below : List Frame} {meth : Method} {c : Code} {mc ms : Nat} {H : Heap} {locs : List Loc} {cells slots : Nat} {ls0 : Array Slot} (hC : Cf G mi d bc bs F ls p e Rm s m args below meth c mc ms H locs cells slots ls0) {As : List Value} : ∀ U : State, U.heap = H → s.WarmedH U.vm → acp G As F As.toArray U := fun U hU hW => ⟨rfl, hC.2.1.1, State.WarmedH.trans hC.2.1.2.1 hW, by rw [hU]; exact hC.2.2.1⟩
theorem acw_code (mi' : MI) (hh : mi'.2.2.2.2 = []) {s : State} (hG : GOK G) (hW : G.2.1.WarmedH s.vm) (hc : Cond.code mi'.1 mi'.2.1 mi'.2.2.1 mi'.2.2.2.1 ∈ lw_tbl) : (∀ w ∈ acw mi', ∀ (a' : Array Value) (U : State), s.WarmedH U.vm → w.before a' U = true) ∧ Cond.code mi'.1 mi'.2.1 mi'.2.2.1 mi'.2.2.2.1 ∈ acw mi' := by
  unfold acw
  rw [hh]
  refine ⟨fun w hw a' U hU => ?_, List.mem_singleton.mpr rfl⟩
  rw [List.mem_singleton] at hw
  subst hw
  exact gw hG (State.WarmedH.trans hW hU) hc rfl
theorem Cf.rm {p : Program} {e : Env} {Rm : Room} {s : State} {m : MethodId} {args : Array Value} {below : List Frame} {meth : Method} {c : Code} {mc ms : Nat} {H : Heap} {locs : List Loc} {cells slots : Nat} {ls0 : Array Slot} {mc' ms' d' n : Nat} (hC : Cf G mi d (bc + mc') (bs + ms') F ls p e Rm s m args below meth c mc ms H locs cells slots ls0) (hd : d' + 1 ≤ d) (hn : n ≤ 40) : (acr d' mc' ms').frames + 1 ≤ Rm.frames ∧ 8 + (n + 11) + (acr d' mc' ms').locals ≤ Rm.locals ∧ cells + mc' ≤ Rm.cells ∧ slots + ms' ≤ Rm.slots := by
  obtain ⟨a1, a2, a3, a4, a5, a6⟩ := hC.2.2.2.2.2
  simp only [acr]
  refine ⟨by omega, by omega, by omega, by omega⟩
/-- a virtual call -/
theorem AF.callV {mi' : MI} {idx n ci d' mc' ms' b : Nat} {As rest : List Value} {fs : List Value} {R' : AR → AH → Prop} (hd : decode mi.2.1 pc = .ok (.invokevirtual idx, 3)) (hk : KV mi.1.cls idx mi' n) (hM : AC G mi' d' mc' ms' (.ref b :: As) F R') (hF : F.2 b = some (.inr (ci, fs))) (hci : (cls[ci]?).map (fun q => q.1) = some mi'.1.cls) (hn : As.length = n) (hst : st = As.reverse ++ .ref b :: rest) (hw : (rest.map fun v => v.category).sum ≤ 8) (hdd : d' + 1 ≤ d) (hx : mi.2.2.2.2 = [])
    (kx : ∀ E F', R' (.inr E) F' → R (.inr E) F') (k : ∀ v F', R' (.inl v) F' → AF G mi d bc bs R F' (pc + 3) ls (v.toList ++ rest)) : AF G mi d (bc + mc') (bs + ms') R F pc ls st := by
  intro p e Rm s m args below meth c mc ms H locs cells slots ls0 hC
  obtain ⟨hh, ⟨w1, w2, w3, w4, w5⟩, hy, hpl, h40⟩ := hk
  have hG := hC.2.1.1
  have hW := hC.2.1.2.1
  obtain ⟨a1, a2, a3, a4⟩ := hC.rm hdd h40
  obtain ⟨b1, b2⟩ := acw_code mi' hh hG hW w5
  obtain ⟨r, h1, cell, q1, q2, q3, q4⟩ := hC.2.2.1.2.2.2 b _ hF
  have hr : r.1 = mi'.1.cls := by rw [h1] at hci; exact Option.some.inj hci
  obtain ⟨-, hfc, -⟩ := (gK hG hW).1 ci _ h1
  refine AF.behind hC rfl rfl (vx_runV (C := mi'.1.cls) (Ts := []) (y := mi'.1) (bytes := mi'.2.1) (maxL := mi'.2.2.1) (ret := mi'.2.2.2.1) (n := n) (As := As) (rest := rest) hC.fix hM ⟨⟨rfl, rfl, a1, a2, b1, b2, gw hG hW w5 rfl, gw hG hW w4 rfl, hy, plen hpl, gw hG hW w1 rfl⟩, gw hG hW w2 rfl, gw hG hW w3 rfl⟩ ⟨acp_blind, ⟨cell, q1, by rw [q3]; rfl, by rw [q2, ← hr]; exact hfc⟩, acp_run hC⟩ rfl hn hC.2.2.2.2.1.1 hst (by simpa using hw) hd ⟨a3, a4⟩) hx kx k
theorem AF.callS {mi' : MI} {idx n d' mc' ms' : Nat} {As rest : List Value} {R' : AR → AH → Prop} (hd : decode mi.2.1 pc = .ok (.invokestatic idx, 3)) (hk : KS mi.1.cls idx mi' n) (hM : AC G mi' d' mc' ms' As F R') (hn : As.length = n) (hst : st = As.reverse ++ rest) (hw : (rest.map fun v => v.category).sum ≤ 8) (hdd : d' + 1 ≤ d) (hx : mi.2.2.2.2 = [])
    (kx : ∀ E F', R' (.inr E) F' → R (.inr E) F') (k : ∀ v F', R' (.inl v) F' → AF G mi d bc bs R F' (pc + 3) ls (v.toList ++ rest)) : AF G mi d (bc + mc') (bs + ms') R F pc ls st := by
  intro p e Rm s m args below meth c mc ms H locs cells slots ls0 hC
  obtain ⟨hh, ⟨w1, w2, w4, w5⟩, hy, hpl, h40⟩ := hk
  have hG := hC.2.1.1
  have hW := hC.2.1.2.1
  obtain ⟨a1, a2, a3, a4⟩ := hC.rm hdd h40
  obtain ⟨b1, b2⟩ := acw_code mi' hh hG hW w5
  refine AF.behind hC rfl rfl (vx_runS (Ts := []) (y := mi'.1) (bytes := mi'.2.1) (maxL := mi'.2.2.1) (ret := mi'.2.2.2.1) (n := n) (As := As) (rest := rest) hC.fix hM ⟨⟨rfl, rfl, a1, a2, b1, b2, gw hG hW w5 rfl, gw hG hW w4 rfl, hy, plen hpl, gw hG hW w1 rfl⟩, gw hG hW w2 rfl⟩ ⟨acp_blind, acp_run hC⟩ rfl hn hC.2.2.2.2.1.1 hst (by simpa using hw) hd ⟨a3, a4⟩) hx kx k
/-- the kit's plain run as a run that may throw -/
theorem run_x {p : Program} {l : Launch} {e : Env} {Rm : Room} {s : State} {m : MethodId} {args : Array Value} {below : List Frame} {meth : Method} {c : Code} {H : Heap} {locs : List Loc} {cells slots mc' ms' : Nat} {g : JFrame} {rest : List Value} {Qa : State → Outcome → State → Prop} {XC : String → State → State → Prop} {free : Addr → Prop} (h : va_Run p l e Rm s m args below meth c H locs cells slots mc' ms' g rest Qa free) : vx_Run p l e Rm s m args below meth c H locs cells slots mc' ms' g rest Qa XC free := fun T hT X => Or.inl (h T hT X)
theorem AF.callI {mi' : MI} {idx n d' mc' ms' b : Nat} {As rest : List Value} {R' : AR → AH → Prop} (hd : decode mi.2.1 pc = .ok (.invokespecial idx, 3)) (hk : KI mi.1.cls idx mi' n) (hM : AC G mi' d' mc' ms' (.ref b :: As) F R') (hn : As.length = n) (hst : st = As.reverse ++ .ref b :: rest) (hw : (rest.map fun v => v.category).sum ≤ 8) (hdd : d' + 1 ≤ d) (hx : mi.2.2.2.2 = [])
    (kx : ∀ E F', ¬ R' (.inr E) F') (k : ∀ v F', R' (.inl v) F' → AF G mi d bc bs R F' (pc + 3) ls (v.toList ++ rest)) : AF G mi d (bc + mc') (bs + ms') R F pc ls st := by
  intro p e Rm s m args below meth c mc ms H locs cells slots ls0 hC
  obtain ⟨hh, ⟨w1, w2, w3, wr, w4, w5⟩, hy, hpl, h40⟩ := hk
  have hG := hC.2.1.1
  have hW := hC.2.1.2.1
  obtain ⟨a1, a2, a3, a4⟩ := hC.rm hdd h40
  obtain ⟨b1, b2⟩ := acw_code mi' hh hG hW (by rw [wr]; exact w5)
  rw [wr] at b2
  refine AF.behind hC rfl rfl (run_x (va_runI (Ts := []) (y := mi'.1) (bytes := mi'.2.1) (maxL := mi'.2.2.1) (n := n) (As := As) (rest := rest) hC.fix (hM.met kx) ⟨⟨rfl, rfl, a1, a2, b1, b2, gw hG hW w5 rfl, gw hG hW w4 rfl, hy, plen hpl, gw hG hW w1 rfl⟩, w3, gw hG hW w2 rfl⟩ ⟨acp_blind, acp_run hC⟩ rfl hn hC.2.2.2.2.1.1 hst (by simpa using hw) hd ⟨a3, a4⟩)) hx (fun E F' q => absurd q (kx E F')) k
theorem AF.callVN {mi' : MI} {host : String} {idx n ci d' mc' ms' b : Nat} {As rest : List Value} {fs : List Value} {R' : AR → AH → Prop} (hd : decode mi.2.1 pc = .ok (.invokevirtual idx, 3)) (hk : KVN mi.1.cls idx mi' n host) (hM : AC G mi' d' mc' ms' (.ref b :: As) F R') (hF : F.2 b = some (.inr (ci, fs))) (hci : (cls[ci]?).map (fun q => q.1) = some mi'.1.cls) (hn : As.length = n) (hst : st = As.reverse ++ .ref b :: rest) (hw : (rest.map fun v => v.category).sum ≤ 8) (hdd : d' + 1 ≤ d) (hx : mi.2.2.2.2 = [])
    (kx : ∀ E F', ¬ R' (.inr E) F') (k : ∀ v F', R' (.inl v) F' → AF G mi d bc bs R F' (pc + 3) ls (v.toList ++ rest)) : AF G mi d (bc + mc') (bs + ms') R F pc ls st := by
  intro p e Rm s m args below meth c mc ms H locs cells slots ls0 hC
  obtain ⟨hh, ⟨w1, w2, w3, w4, w5⟩, hy, hpl, h40⟩ := hk
  have hG := hC.2.1.1
  have hW := hC.2.1.2.1
  obtain ⟨a1, a2, a3, a4⟩ := hC.rm hdd h40
  obtain ⟨b1, b2⟩ := acw_code mi' hh hG hW w5
  obtain ⟨r, h1, cell, q1, q2, q3, q4⟩ := hC.2.2.1.2.2.2 b _ hF
  have hr : r.1 = mi'.1.cls := by rw [h1] at hci; exact Option.some.inj hci
  obtain ⟨-, hfc, -⟩ := (gK hG hW).1 ci _ h1
  refine AF.behind hC rfl rfl (run_x (va_runVN (C := mi'.1.cls) (Ts := []) (y := mi'.1) (bytes := mi'.2.1) (maxL := mi'.2.2.1) (ret := mi'.2.2.2.1) (n := n) (As := As) (rest := rest) hC.fix (hM.met kx) ⟨⟨⟨rfl, rfl, a1, a2, b1, b2⟩, gw hG hW w5 rfl, gw hG hW w4 rfl, hy, plen hpl, gwM hG hW w1⟩, gw hG hW w2 rfl, gw hG hW w3 rfl⟩ ⟨acp_blind, ⟨cell, q1, by rw [q3]; rfl, by rw [q2, ← hr]; exact hfc⟩, acp_run hC⟩ rfl hn hC.2.2.2.2.1.1 hst (by simpa using hw) hd ⟨a3, a4⟩)) hx (fun E F' q => absurd q (kx E F')) k
theorem AF.callSN {mi' : MI} {host : String} {idx n d' mc' ms' : Nat} {As rest : List Value} {R' : AR → AH → Prop} (hd : decode mi.2.1 pc = .ok (.invokestatic idx, 3)) (hk : KSN mi.1.cls idx mi' n host) (hM : AC G mi' d' mc' ms' As F R') (hn : As.length = n) (hst : st = As.reverse ++ rest) (hw : (rest.map fun v => v.category).sum ≤ 8) (hdd : d' + 1 ≤ d) (hx : mi.2.2.2.2 = [])
    (kx : ∀ E F', ¬ R' (.inr E) F') (k : ∀ v F', R' (.inl v) F' → AF G mi d bc bs R F' (pc + 3) ls (v.toList ++ rest)) : AF G mi d (bc + mc') (bs + ms') R F pc ls st := by
  intro p e Rm s m args below meth c mc ms H locs cells slots ls0 hC
  obtain ⟨hh, ⟨w1, w2, w4, w5⟩, hy, hpl, h40⟩ := hk
  have hG := hC.2.1.1
  have hW := hC.2.1.2.1
  obtain ⟨a1, a2, a3, a4⟩ := hC.rm hdd h40
  obtain ⟨b1, b2⟩ := acw_code mi' hh hG hW w5
  refine AF.behind hC rfl rfl (run_x (va_runSN (Ts := []) (y := mi'.1) (bytes := mi'.2.1) (maxL := mi'.2.2.1) (ret := mi'.2.2.2.1) (n := n) (As := As) (rest := rest) hC.fix (hM.met kx) ⟨⟨⟨rfl, rfl, a1, a2, b1, b2⟩, gw hG hW w5 rfl, gw hG hW w4 rfl, hy, plen hpl, gwM hG hW w1⟩, gw hG hW w2 rfl, trivial⟩ ⟨acp_blind, acp_run hC⟩ rfl hn hC.2.2.2.2.1.1 hst (by simpa using hw) hd ⟨a3, a4⟩)) hx (fun E F' q => absurd q (kx E F')) k
theorem AF.callIN {mi' : MI} {host : String} {idx n d' mc' ms' b : Nat} {As rest : List Value} {R' : AR → AH → Prop} (hd : decode mi.2.1 pc = .ok (.invokespecial idx, 3)) (hk : KIN mi.1.cls idx mi' n host) (hM : AC G mi' d' mc' ms' (.ref b :: As) F R') (hn : As.length = n) (hst : st = As.reverse ++ .ref b :: rest) (hw : (rest.map fun v => v.category).sum ≤ 8) (hdd : d' + 1 ≤ d) (hx : mi.2.2.2.2 = [])
    (kx : ∀ E F', ¬ R' (.inr E) F') (k : ∀ v F', R' (.inl v) F' → AF G mi d bc bs R F' (pc + 3) ls (v.toList ++ rest)) : AF G mi d (bc + mc') (bs + ms') R F pc ls st := by
  intro p e Rm s m args below meth c mc ms H locs cells slots ls0 hC
  obtain ⟨hh, ⟨w1, w2, w3, wr, w4, w5⟩, hy, hpl, h40⟩ := hk
  have hG := hC.2.1.1
  have hW := hC.2.1.2.1
  obtain ⟨a1, a2, a3, a4⟩ := hC.rm hdd h40
  obtain ⟨b1, b2⟩ := acw_code mi' hh hG hW (by rw [wr]; exact w5)
  rw [wr] at b2
  refine AF.behind hC rfl rfl (run_x (va_runIN (Ts := []) (y := mi'.1) (bytes := mi'.2.1) (maxL := mi'.2.2.1) (n := n) (As := As) (rest := rest) hC.fix (hM.met kx) ⟨⟨⟨rfl, rfl, a1, a2, b1, b2⟩, gw hG hW w5 rfl, gw hG hW w4 rfl, hy, plen hpl, gwM hG hW w1⟩, w3, gw hG hW w2 rfl⟩ ⟨acp_blind, acp_run hC⟩ rfl hn hC.2.2.2.2.1.1 hst (by simpa using hw) hd ⟨a3, a4⟩)) hx (fun E F' q => absurd q (kx E F')) k
/-- what 'throw new E("text")' needs of the tables -/
def TH (own : String) (ik is ic : Nat) (cl tx : String) (names : List String) : Prop := Bundle.fit cl = true ∧ (∀ n ∈ names, Bundle.fit n = true) ∧ Cond.stringRef own is tx ∈ lw_tbl ∧ (∀ w ∈ Cond.classLink own ik cl :: Cond.initialized cl :: vx_atS own ic cl names, w ∈ lw_tbl ∧ vx_ot w = true) ∧ names.length ≤ 6
theorem gwT {G : GA} (hG : GOK G) {s : State} {args : Array Value} (hW : G.2.1.WarmedH s.vm) {w : Cond} (hw : w ∈ lw_tbl) (hg : vx_ot w = true) (hf : w.keepsFace = true) : w.before args s = true := by
  simp only [vx_ot, Bool.or_eq_true] at hg
  rcases hg with hg | hg
  · exact va_tabs (u := G.2.1.setVm s.vm) hg rfl (Cond.before_shiftedFace (State.Shifted.of_warmed hW) w hf (hG.1 w hw))
  · exact gw hG hW hw hg
theorem thrown {names : List String} {cl own : String} {ic : Nat} : ∀ w ∈ vx_atS own ic cl names, w.keepsFace = true := fun w hw => Bundle.ownAtoms_keepsFace w (List.mem_filter.mp hw).1
theorem Cf.vS {p : Program} {e : Env} {Rm : Room} {s : State} {m : MethodId} {args : Array Value} {below : List Frame} {meth : Method} {c : Code} {mc ms : Nat} {H : Heap} {locs : List Loc} {cells slots : Nat} {ls0 : Array Slot} (hC : Cf G mi d bc bs F ls p e Rm s m args below meth c mc ms H locs cells slots ls0) : va_S (gA G) s.heap H locs := by
  refine ⟨hC.2.1.2.2.2.2, fun q h1 h2 => ?_, hC.2.2.2.1⟩
  have h3 : q < gN G := Nat.not_le.mp h2
  rw [hC.2.2.1.2.2.1 q h3, hC.2.1.2.2.2.1 q h3]
theorem Cf.zq {p : Program} {e : Env} {Rm : Room} {s : State} {m : MethodId} {args : Array Value} {below : List Frame} {meth : Method} {c : Code} {mc ms : Nat} {H : Heap} {locs : List Loc} {cells slots : Nat} {ls0 : Array Slot} (hC : Cf G mi d bc bs F ls p e Rm s m args below meth c mc ms H locs cells slots ls0) {C n d9 : String} (h : vx_Zq C n d9 (gA G) G.2.1 G.2.1.heap) : vx_Zq C n d9 (gA G) s s.heap :=
  vx_Zq.moved hC.2.1.2.1.alike (h.kept (fun a h1 _ => hC.2.1.2.2.2.1 a h1))
/-- where a throw leaves the picture: more may have been made -/
def more (F : AH) (n : Nat) : AH := (n, F.2)
theorem AF.throwS {cl tx : String} {names : List String} {ik is ic : Nat} (hl : TH mi.1.cls ik is ic cl tx names) (d0 : decode mi.2.1 pc = .ok (.new ik, 3)) (d3 : decode mi.2.1 (pc + 3) = .ok (.dup, 1)) (d4 : decode mi.2.1 (pc + 4) = .ok (.ldc is, 2)) (d6 : decode mi.2.1 (pc + 6) = .ok (.invokespecial ic, 3)) (d9 : decode mi.2.1 (pc + 9) = .ok (.athrow, 1)) (hx : mi.2.2.2.2 = []) (hd : 10 ≤ d) (hw : (st.map fun v => v.category).sum ≤ 8)
    (h : ∀ n, F.1 ≤ n → R (.inr cl) (more F n)) : AF G mi d (bc + 1) (bs + 6) R F pc ls st := by
  intro p e Rm s m args below meth c mc ms H locs cells slots ls0 hC
  obtain ⟨t1, t2, t3, t4, t5⟩ := hl
  have hG := hC.2.1.1
  have hW := hC.2.1.2.1
  obtain ⟨sa, sv, hsa, -⟩ := hG.2.2.2.2.2.1 _ _ _ t3
  have hk := fun (w : Cond) hw => (t4 w hw).1
  obtain ⟨a1, a2, a3, a4, a5, a6⟩ := hC.2.2.2.2.2
  refine vx_throwS (A := gA G) (text := tx) (names := names) (mc := mc) (ms := ms) (sa := sa) hC.1.1 hC.1.2.1 hG.2.1 hC.1.2.2.2.2.2.2.1 t1 t2 (gw hG hW (hk _ List.mem_cons_self) rfl) (gw hG hW (hk _ (List.mem_cons_of_mem _ List.mem_cons_self)) rfl) (vk_R.warm hW hsa) (fun w hw => gwT hG hW (hk w (List.mem_cons_of_mem _ (List.mem_cons_of_mem _ hw))) (t4 w (List.mem_cons_of_mem _ (List.mem_cons_of_mem _ hw))).2 (thrown w hw)) (fun w hw => (t4 w hw).2) (hC.zq hG.2.2.2.1) (hC.zq hG.2.2.2.2.1) hC.vS (hC.2.2.2.2.1.1.trans hC.1.2.2.2.1.symm) d0 d3 d4 d6 d9 ?_ (by omega) (by omega) (by omega) (by omega) hC.1.2.2.2.2.2.1 ?_ hC.2.2.2.1 (by omega) (by omega)
  · intro x hx9
    rw [hC.1.2.2.2.2.2.2.2, hx] at hx9
    cases hx9
  · intro t _ hz hq
    have hWd := hC.2.2.1
    refine ⟨more F t.heap.size, h _ (by rw [← hWd.1]; exact hz), ⟨rfl, Nat.le_trans (by rw [hWd.1]; exact hWd.2.1) hz, fun q h9 => ?_, fun q c9 h9 => ?_⟩, Nat.le_trans hC.2.1.2.2.2.2 hz⟩
    · rw [hq q (by have h8 := hWd.2.1; rw [← hWd.1] at h8; omega)]
      exact hWd.2.2.1 q h9
    · have h7 := hWd.2.2.2 q c9 h9
      have h8 : q < H.size := va_at.lt h7
      exact va_at.kept h7 (hq q h8)
theorem AF.throwSW {cl tx : String} {names : List String} {ik is ic : Nat} (hl : TH mi.1.cls ik is ic cl tx names) (d0 : decode mi.2.1 pc = .ok (.new ik, 3)) (d3 : decode mi.2.1 (pc + 3) = .ok (.dup, 1)) (d4 : decode mi.2.1 (pc + 4) = .ok (.ldc_w is, 3)) (d6 : decode mi.2.1 (pc + 7) = .ok (.invokespecial ic, 3)) (d9 : decode mi.2.1 (pc + 10) = .ok (.athrow, 1)) (hx : mi.2.2.2.2 = []) (hd : 10 ≤ d) (hw : (st.map fun v => v.category).sum ≤ 8)
    (h : ∀ n, F.1 ≤ n → R (.inr cl) (more F n)) : AF G mi d (bc + 1) (bs + 6) R F pc ls st := by
  intro p e Rm s m args below meth c mc ms H locs cells slots ls0 hC
  obtain ⟨t1, t2, t3, t4, t5⟩ := hl
  have hG := hC.2.1.1
  have hW := hC.2.1.2.1
  obtain ⟨sa, sv, hsa, -⟩ := hG.2.2.2.2.2.1 _ _ _ t3
  have hk := fun (w : Cond) hw => (t4 w hw).1
  obtain ⟨a1, a2, a3, a4, a5, a6⟩ := hC.2.2.2.2.2
  refine vx_throwSW (A := gA G) (text := tx) (names := names) (mc := mc) (ms := ms) (sa := sa) hC.1.1 hC.1.2.1 hG.2.1 hC.1.2.2.2.2.2.2.1 t1 t2 (gw hG hW (hk _ List.mem_cons_self) rfl) (gw hG hW (hk _ (List.mem_cons_of_mem _ List.mem_cons_self)) rfl) (vk_R.warm hW hsa) (fun w hw => gwT hG hW (hk w (List.mem_cons_of_mem _ (List.mem_cons_of_mem _ hw))) (t4 w (List.mem_cons_of_mem _ (List.mem_cons_of_mem _ hw))).2 (thrown w hw)) (fun w hw => (t4 w hw).2) (hC.zq hG.2.2.2.1) (hC.zq hG.2.2.2.2.1) hC.vS (hC.2.2.2.2.1.1.trans hC.1.2.2.2.1.symm) d0 d3 d4 d6 d9 ?_ (by omega) (by omega) (by omega) (by omega) hC.1.2.2.2.2.2.1 ?_ hC.2.2.2.1 (by omega) (by omega)
  · intro x hx9
    rw [hC.1.2.2.2.2.2.2.2, hx] at hx9
    cases hx9
  · intro t _ hz hq
    have hWd := hC.2.2.1
    refine ⟨more F t.heap.size, h _ (by rw [← hWd.1]; exact hz), ⟨rfl, Nat.le_trans (by rw [hWd.1]; exact hWd.2.1) hz, fun q h9 => ?_, fun q c9 h9 => ?_⟩, Nat.le_trans hC.2.1.2.2.2.2 hz⟩
    · rw [hq q (by have h8 := hWd.2.1; rw [← hWd.1] at h8; omega)]
      exact hWd.2.2.1 q h9
    · have h7 := hWd.2.2.2 q c9 h9
      have h8 : q < H.size := va_at.lt h7
      exact va_at.kept h7 (hq q h8)
end AFE
