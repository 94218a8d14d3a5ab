/-! The layer's rows for the heap, the calls and the ends. -/
def pu (f : Nat → Option va_E) (a : Nat) (c : va_E) : Nat → Option va_E := fun q => if q = a then some c else f q
theorem pu_s {f : Nat → Option va_E} {a : Nat} {c : va_E} : pu f a c a = some c := by simp [pu]
theorem pu_n {f : Nat → Option va_E} {a b : Nat} {c : va_E} (h : ¬ b = a) : pu f a c b = f b := by simp [pu, h]
theorem Wd.P1 {G : GA} {F : AH} {H : Heap} (h : Wd G F H) {a : Nat} {c : va_E} (hF : F.2 a = some c) : va_P G.2.2.1 cls [(a, c)] H := by
  intro k q hk
  cases k with
  | zero => cases hk; exact h.2.2.2 a c hF
  | succ k => cases hk
theorem Wd.put {G : GA} {F : AH} {H H' : Heap} (h : Wd G F H) {a : Nat} {c : va_E} (ha : gN G ≤ a) (hat : va_at G.2.2.1 cls (a, c) H') (hz : H'.size = H.size) (ho : ∀ q, q ≠ a → H'[q]? = H[q]?) : Wd G (F.1, pu F.2 a c) H' := by
  refine ⟨hz.trans h.1, h.2.1, fun q hq => (ho q (by omega)).trans (h.2.2.1 q hq), fun q c' hq => ?_⟩
  by_cases e : q = a
  · subst e
    have hq : pu F.2 q c q = some c' := hq
    rw [pu_s] at hq
    cases hq
    exact hat
  · have hq : pu F.2 a c q = some c' := hq
    rw [pu_n e] at hq
    exact va_at.kept (h.2.2.2 q c' hq) (ho q e)
theorem Wd.new {G : GA} {F : AH} {H H' : Heap} (h : Wd G F H) {c : va_E} (hat : va_at G.2.2.1 cls (F.1, c) H') (hz : H'.size = F.1 + 1) (ho : ∀ q, q < F.1 → H'[q]? = H[q]?) : Wd G (F.1 + 1, pu F.2 F.1 c) H' := by
  refine ⟨hz, Nat.le_succ_of_le h.2.1, fun q hq => (ho q (Nat.lt_of_lt_of_le hq h.2.1)).trans (h.2.2.1 q hq), fun q c' hq => ?_⟩
  by_cases e : q = F.1
  · subst e
    have hq : pu F.2 F.1 c F.1 = some c' := hq
    rw [pu_s] at hq
    cases hq
    exact hat
  · have hq : pu F.2 F.1 c q = some c' := hq
    rw [pu_n e] at hq
    have h9 := h.2.2.2 q c' hq
    refine va_at.kept h9 (ho q ?_)
    have h8 : q < H.size := va_at.lt h9
    rw [h.1] at h8
    exact h8
/-- a field of kind ci, place k, read or written by class own at entry idx of its pool -/
def FL (own : String) (idx ci k : Nat) : Prop := ∃ (C : String) (T : u_T) (N : Nat), cls[ci]? = some (C, T, N) ∧ k < N ∧ (∀ w ∈ u_ws C T N, w ∈ lw_tbl) ∧
  (Cond.fieldLink own idx (T k).1 (T k).2.1 (T k).2.2.1 ∈ lw_tbl ∨ ∃ host, Cond.fieldLinkNest own idx (T k).1 (T k).2.1 (T k).2.2.1 host ∈ lw_tbl)
def FP (own : String) (idx ci k : Nat) (ty : FieldType) : Prop := ∃ (C : String) (T : u_T) (N : Nat) (ty0 : Nat → FieldType), cls[ci]? = some (C, T, N) ∧ k < N ∧ (∀ w ∈ u_ws C T N, w ∈ lw_tbl) ∧
  (∀ k, k < N → parseFieldDescriptor (T k).2.2.1 = some (ty0 k)) ∧ (∀ a, a < N → ∀ b, b < N → a ≠ b → (T a).2.1 ≠ (T b).2.1) ∧ parseFieldDescriptor (T k).2.2.1 = some ty ∧
  (((T k).2.2.2 = false ∧ (Cond.fieldLink own idx (T k).1 (T k).2.1 (T k).2.2.1 ∈ lw_tbl ∨ ∃ host, Cond.fieldLinkNest own idx (T k).1 (T k).2.1 (T k).2.2.1 host ∈ lw_tbl)) ∨
   ((T k).2.2.2 = true ∧ (T k).1 = own ∧ Cond.fieldLink own idx (T k).1 (T k).2.1 (T k).2.2.1 ∈ lw_tbl))
theorem lay_good {C : String} {T : u_T} {N : Nat} : ∀ w ∈ u_ws C T N, goodWord w = true := by
  intro w hw
  obtain ⟨k, -, rfl⟩ := List.mem_map.mp hw
  unfold u_lay
  split <;> rfl
theorem lay_at {G : GA} (hG : GOK G) {s : State} {args : Array Value} (hW : G.2.1.WarmedH s.vm) {C : String} {T : u_T} {N : Nat} (hin : ∀ w ∈ u_ws C T N, w ∈ lw_tbl) : ∀ w ∈ u_ws C T N, w.before args s = true := fun w hw => gw hG hW (hin w hw) (lay_good w hw)
section AFH
variable {G : GA} {mi : MI} {d bc bs : Nat} {R : AR → AH → Prop} {F : AH} {pc : Nat} {ls : List (Option Value)} {st : List Value}
theorem Cf.heap {F' : AH} {p : Program} {e : Env} {Rm : Room} {s : State} {m : MethodId} {args : Array Value} {below : List Frame} {meth : Method} {c : Code} {mc ms : Nat} {H H' : Heap} {locs locs' : List Loc} {cells slots : Nat} {ls0 : Array Slot} (hC : Cf G mi d bc bs F ls p e Rm s m args below meth c mc ms H locs cells slots ls0) (hW : Wd G F' H') (hz : H.size ≤ H'.size) (hl : ∀ z ∈ locs', gN G ≤ z.base) : Cf G mi d bc bs F' ls p e Rm s m args below meth c mc ms H' locs' cells slots ls0 :=
  ⟨hC.1, ⟨hC.2.1.1, hC.2.1.2.1, hC.2.1.2.2.1, hC.2.1.2.2.2.1, Nat.le_trans hC.2.1.2.2.2.2 hz⟩, hW, hl, hC.2.2.2.2.1, hC.2.2.2.2.2⟩
theorem Cf.pay {k n k' n' : Nat} {p : Program} {e : Env} {Rm : Room} {s : State} {m : MethodId} {args : Array Value} {below : List Frame} {meth : Method} {c : Code} {mc ms : Nat} {H : Heap} {locs : List Loc} {cells slots : Nat} {ls0 : Array Slot} (hC : Cf G mi d bc bs F ls p e Rm s m args below meth c mc ms H locs cells slots ls0) (h1 : bc = k' + k) (h2 : bs = n' + n) : Cf G mi d k' n' F ls p e Rm s m args below meth c mc ms H locs (cells + k) (slots + n) ls0 :=
  ⟨hC.1, hC.2.1, hC.2.2.1, hC.2.2.2.1, hC.2.2.2.2.1, hC.2.2.2.2.2.1, hC.2.2.2.2.2.2.1, by have := hC.2.2.2.2.2.2.2.1; omega, by have := hC.2.2.2.2.2.2.2.2.1; omega, hC.2.2.2.2.2.2.2.2.2⟩
theorem loc_add {locs : List Loc} {n a i : Nat} (h : ∀ z ∈ locs, n ≤ z.base) (ha : n ≤ a) : ∀ z ∈ locs ++ [⟨a, i⟩], n ≤ z.base := by
  intro z hz
  rcases List.mem_append.mp hz with h1 | h1
  · exact h z h1
  · rw [List.mem_singleton] at h1
    subst h1
    exact ha
theorem AF.less {bc' bs' d' : Nat} (k : AF G mi d' bc' bs' R F pc ls st) (hd : d' ≤ d) (h1 : bc' ≤ bc) (h2 : bs' ≤ bs) : AF G mi d bc bs R F pc ls st := by
  intro p e Rm s m args below meth c mc ms H locs cells slots ls0 hC
  refine k _ _ _ _ _ _ _ _ _ _ _ _ _ _ _ _ ⟨hC.1, hC.2.1, hC.2.2.1, hC.2.2.2.1, hC.2.2.2.2.1, ?_⟩
  obtain ⟨a1, a2, a3, a4, a5, a6⟩ := hC.2.2.2.2.2
  exact ⟨by omega, by omega, by omega, by omega, a5, a6⟩
theorem AF.imp {R' : AR → AH → Prop} (h : ∀ r F, R' r F → R r F) (k : AF G mi d bc bs R' F pc ls st) : AF G mi d bc bs R F pc ls st := by
  intro p e Rm s m args below meth c mc ms H locs cells slots ls0 hC T hT X
  obtain ⟨t, a, o, b1, b2, b3⟩ := k _ _ _ _ _ _ _ _ _ _ _ _ _ _ _ _ hC T hT X
  refine ⟨t, a, o, b1, b2, ?_⟩
  rcases b3 with ⟨⟨v, F', c1, c2, c3⟩, q⟩ | ⟨z, c1, E, ce, L, ⟨F', c2, c3⟩, q⟩
  · exact Or.inl ⟨⟨v, F', c1, h _ _ c2, c3⟩, q⟩
  · exact Or.inr ⟨z, c1, E, ce, L, ⟨F', h _ _ c2, c3⟩, q⟩
theorem AF.getfield {idx ci k a : Nat} {fs : List Value} {v : Value} (hd : decode mi.2.1 pc = .ok (.getfield idx, 3)) (hl : FL mi.1.cls idx ci k) (hF : F.2 a = some (.inr (ci, fs))) (hv : fs[k]? = some v) (kk : AF G mi d bc bs R F (pc + 3) ls (v :: st)) : AF G mi d bc bs R F pc ls (.ref a :: st) := by
  intro p e Rm s m args below meth c mc ms H locs cells slots ls0 hC
  obtain ⟨C, T, N, hc, hk, hin, hlk⟩ := hl
  have hG := hC.2.1.1
  have hW := hC.2.1.2.1
  rcases hlk with hlk | ⟨host, hlk⟩
  · exact va_get (Ts := u_ws C T N) hC.1.1 hC.1.2.1 (lay_at hG hW hin) (fun _ h => h) hC.1.2.2.2.2.2.2.1 (gK hG hW) (hC.2.2.1.P1 hF) 0 rfl hc k hk (gw hG hW hlk rfl) (fun _ h => h) hv hd (kk _ _ _ _ _ _ _ _ _ _ _ _ _ _ _ _ hC)
  · exact va_getN (Ts := u_ws C T N) hC.1.1 hC.1.2.1 (lay_at hG hW hin) (fun _ h => h) hC.1.2.2.2.2.2.2.1 (gK hG hW) (hC.2.2.1.P1 hF) 0 rfl hc k hk (gwF hG hW hlk) (fun _ h => h) hv hd (kk _ _ _ _ _ _ _ _ _ _ _ _ _ _ _ _ hC)
theorem AF.putfield {idx ci k a : Nat} {fs : List Value} {v : Value} {ty : FieldType} (hd : decode mi.2.1 pc = .ok (.putfield idx, 3)) (hl : FP mi.1.cls idx ci k ty) (hF : F.2 a = some (.inr (ci, fs))) (ha : gN G ≤ a) (hlen : k < fs.length) (hn : narrow ty v = v) (hfit : fits ty v = true) (hini : mi.1.name = "<init>" ∨ ∀ T : u_T, (∃ (C : String) (N : Nat), cls[ci]? = some (C, T, N)) → (T k).2.2.2 = false)
    (kk : AF G mi d bc bs R (F.1, pu F.2 a (.inr (ci, fs.set k v))) (pc + 3) ls st) : AF G mi d bc bs R F pc ls (v :: .ref a :: st) := by
  intro p e Rm s m args below meth c mc ms H locs cells slots ls0 hC
  obtain ⟨C, T, N, ty0, hc, hk, hin, hty, hnm, hpt, hlk⟩ := hl
  have hG := hC.2.1.1
  have hW := hC.2.1.2.1
  have hts := lay_at (args := args) hG hW hin
  have hK := gK hG hW
  have hap := va_apart (own := C) hts (fun _ h => h) ty0 hty hnm hK hc
  obtain ⟨r, h1, cell, q1, q2, q3, q4⟩ := hC.2.2.1.2.2.2 a _ hF
  have hr : r = (C, T, N) := Option.some.inj (h1.symm.trans hc)
  subst hr
  obtain ⟨hS, hfc, kC, hkC, hkind⟩ := hK.1 ci _ hc
  obtain ⟨cf, kf, fi, f, hi, hsl⟩ := hS k hk
  have hst := (u_facts hfc hkC (u_lays hts (fun _ h => h) hk) hi).1
  have hlay := hts _ (u_in_lay hk)
  unfold u_lay at hlay
  have fin : ∀ H' : Heap, H'[a]? = some (cell.setSlot f.slot v) → H'.size = H.size → (∀ q, q ≠ a → H'[q]? = H[q]?) → W p G.1 e Rm s m args below meth c H' (locs ++ [⟨a, f.slot⟩]) cells slots (vx_MQ below (QC G R) (QX G R) args s mc ms (gA G)) (F0 m (pc + 3) ls0 st) := by
    intro H' e1 e2 e3
    rw [hsl] at e1
    refine kk _ _ _ _ _ _ _ _ _ _ _ _ _ _ _ _ (hC.heap (hC.2.2.1.put ha ⟨_, hc, t_OB.to (V := updV (vp_V fs) k v) ⟨_, e1, q2, q3, t_set q4 hap hk v⟩ (fun j _ => vp_updV_set hlen v j)⟩ e2 e3) (Nat.le_of_eq e2.symm) (loc_add hC.2.2.2.1 ha))
  rcases hlk with ⟨hf, hlk⟩ | ⟨hf, hdecl, hlk⟩
  · rw [if_neg (by rw [hf]; decide)] at hlay
    have h6 := u_store hfc hkC hkind hlay hi hpt hn hfit
    rcases hlk with hlk | ⟨host, hlk⟩
    · exact W.putK hC.1.1 hC.1.2.1 (f := f) ⟨hC.1.2.2.2.2.2.2.1, gw hG hW hlk rfl, ⟨_, _, _, hi⟩, hst⟩ (by rw [q2]; exact h6) q1 q3 (by rw [hsl]; exact k2_hasslot (q4 k hk)) rfl rfl hd fin
    · exact va_WputK hC.1.1 hC.1.2.1 (f := f) hC.1.2.2.2.2.2.2.1 (gwF hG hW hlk) hi hst (by rw [q2]; exact h6) q1 q3 (by rw [hsl]; exact k2_hasslot (q4 k hk)) rfl rfl hd fin
  · rcases hini with hini | hini
    · rw [if_pos hf] at hlay
      have hcf : m.cls = cf := by
        obtain ⟨_, _, c', _, _, _, -, -, hf', -, -, -, hown2, -⟩ := Cond.laysFinal_spec hlay
        have e1 : c' = cf := by have := hi.symm.trans hf'; simp at this; exact this.1.symm
        rw [hdecl] at hown2
        rw [← e1]; exact Option.some.inj (hC.1.2.2.2.2.2.2.1.symm.trans hown2)
      have h6 := u_fits hfc hkC hkind (Or.inr hlay) hi hpt hn hfit
      exact W.putFinK hC.1.1 hC.1.2.1 hC.1.2.2.2.2.2.2.1 (gw hG hW hlk rfl) hi hst hcf (hC.1.2.2.2.2.1.trans hini) (by rw [q2]; exact h6) q1 q3 (by rw [hsl]; exact k2_hasslot (q4 k hk)) rfl rfl hd fin
    · exact absurd (hini T ⟨C, N, hc⟩) (by rw [hf]; decide)

theorem AF.iaload {a n : Nat} {i : Int32} {f : Nat → Int32} (j : Nat) (hd : decode mi.2.1 pc = .ok (.iaload, 1)) (hF : F.2 a = some (.inl (gC G 0, n, .inl f))) (hi : i = nI j) (hj : j < n) (hb : n < 2 ^ 31) (k : AF G mi d bc bs R F (pc + 1) ls (.int (f j) :: st)) : AF G mi d bc bs R F pc ls (.int i :: .ref a :: st) := by
  intro p e Rm s m args below meth c mc ms H locs cells slots ls0 hC
  subst hi
  refine va_iald hC.1.1 hC.1.2.1 (gK hC.2.1.1 hC.2.1.2.1) (hC.2.2.1.P1 hF) 0 0 rfl rfl (vp_in_nI hj hb) hd ?_
  rw [nI_clamp (Nat.lt_trans hj hb)]
  exact (k _ _ _ _ _ _ _ _ _ _ _ _ _ _ _ _ hC)
theorem AF.laload {a n : Nat} {i : Int32} {f : Nat → Int64} (j : Nat) (hd : decode mi.2.1 pc = .ok (.laload, 1)) (hF : F.2 a = some (.inl (gC G 1, n, .inr (.inl f)))) (hi : i = nI j) (hj : j < n) (hb : n < 2 ^ 31) (k : AF G mi d bc bs R F (pc + 1) ls (.long (f j) :: st)) : AF G mi d bc bs R F pc ls (.int i :: .ref a :: st) := by
  intro p e Rm s m args below meth c mc ms H locs cells slots ls0 hC
  subst hi
  refine va_lald hC.1.1 hC.1.2.1 (gK hC.2.1.1 hC.2.1.2.1) (hC.2.2.1.P1 hF) 0 1 rfl rfl (vp_in_nI hj hb) hd ?_
  rw [nI_clamp (Nat.lt_trans hj hb)]
  exact (k _ _ _ _ _ _ _ _ _ _ _ _ _ _ _ _ hC)
theorem AF.caload {a n : Nat} {i : Int32} {f : Nat → Int32} (j : Nat) (hd : decode mi.2.1 pc = .ok (.caload, 1)) (hF : F.2 a = some (.inl (gC G 2, n, .inl f))) (hi : i = nI j) (hj : j < n) (hb : n < 2 ^ 31) (k : AF G mi d bc bs R F (pc + 1) ls (.int (f j) :: st)) : AF G mi d bc bs R F pc ls (.int i :: .ref a :: st) := by
  intro p e Rm s m args below meth c mc ms H locs cells slots ls0 hC
  subst hi
  refine va_cald hC.1.1 hC.1.2.1 (gK hC.2.1.1 hC.2.1.2.1) (hC.2.2.1.P1 hF) 0 2 rfl rfl (vp_in_nI hj hb) hd ?_
  rw [nI_clamp (Nat.lt_trans hj hb)]
  exact (k _ _ _ _ _ _ _ _ _ _ _ _ _ _ _ _ hC)
theorem AF.baload {a n : Nat} {i : Int32} {f : Nat → Int32} (j : Nat) (hd : decode mi.2.1 pc = .ok (.baload, 1)) (hF : F.2 a = some (.inl (gC G 5, n, .inl f))) (hi : i = nI j) (hj : j < n) (hb : n < 2 ^ 31) (k : AF G mi d bc bs R F (pc + 1) ls (.int (f j) :: st)) : AF G mi d bc bs R F pc ls (.int i :: .ref a :: st) := by
  intro p e Rm s m args below meth c mc ms H locs cells slots ls0 hC
  subst hi
  refine va_bald hC.1.1 hC.1.2.1 (gK hC.2.1.1 hC.2.1.2.1) (hC.2.2.1.P1 hF) 0 5 rfl rfl (vp_in_nI hj hb) hd ?_
  rw [nI_clamp (Nat.lt_trans hj hb)]
  exact (k _ _ _ _ _ _ _ _ _ _ _ _ _ _ _ _ hC)
theorem vp_cell_set {n : Nat} {z : Nat → Value} {cA : ClassId} {j : Nat} {v : Value} {H' : Heap} {a : Nat} (h : H'[a]? = some ((arrV cA n z).setSlot j v)) : H'[a]? = some (arrV cA n (updV z j v)) := by rw [h, arrV_store]
theorem AF.iastore {a n : Nat} {i : Int32} {x : Int32} {f : Nat → Int32} (j : Nat) (hd : decode mi.2.1 pc = .ok (.iastore, 1)) (hF : F.2 a = some (.inl (gC G 0, n, .inl f))) (ha : gN G ≤ a) (hi : i = nI j) (hj : j < n) (hb : n < 2 ^ 31) (k : AF G mi d bc bs R (F.1, pu F.2 a (.inl (gC G 0, n, .inl (upd f j x)))) (pc + 1) ls st) : AF G mi d bc bs R F pc ls (.int x :: .int i :: .ref a :: st) := by
  intro p e Rm s m args below meth c mc ms H locs cells slots ls0 hC
  subst hi
  have hcl := nI_clamp (Nat.lt_trans hj hb)
  have hin : ¬ (nI j < 0 ∨ n ≤ (nI j).toNatClampNeg) := vp_in_nI hj hb
  refine W.iast hC.1.1 hC.1.2.1 (hC.2.2.1.2.2.2 a _ hF) (((gK hC.2.1.1 hC.2.1.2.1).2 0 _ rfl).1 n (fun j => .int (f j))) (fun q => by cases q) (by show ¬ (nI j < 0 ∨ (arrV _ _ _).slots.size ≤ _); rw [arrV_size]; exact hin) rfl rfl hd fun H1 e1 e2 e3 => ?_
  rw [hcl] at e1 ⊢
  refine k _ _ _ _ _ _ _ _ _ _ _ _ _ _ _ _ (hC.heap (hC.2.2.1.put ha ?_ e2 e3) (Nat.le_of_eq e2.symm) (loc_add hC.2.2.2.1 ha))
  show H1[a]? = some (vp_cell _ _)
  rw [e1]
  rw [vp_cell_i, vp_cell_i, arrV_store]
  congr 2
  funext q
  by_cases hq : q = j
  · subst hq
    simp [updV, upd, vp_updL, vf_upd, vp_nar]
    try rfl
  · simp [updV, upd, vp_updL, vf_upd, hq]
theorem AF.lastore {a n : Nat} {i : Int32} {x : Int64} {f : Nat → Int64} (j : Nat) (hd : decode mi.2.1 pc = .ok (.lastore, 1)) (hF : F.2 a = some (.inl (gC G 1, n, .inr (.inl f)))) (ha : gN G ≤ a) (hi : i = nI j) (hj : j < n) (hb : n < 2 ^ 31) (k : AF G mi d bc bs R (F.1, pu F.2 a (.inl (gC G 1, n, .inr (.inl (vp_updL f j x))))) (pc + 1) ls st) : AF G mi d bc bs R F pc ls (.long x :: .int i :: .ref a :: st) := by
  intro p e Rm s m args below meth c mc ms H locs cells slots ls0 hC
  subst hi
  have hcl := nI_clamp (Nat.lt_trans hj hb)
  have hin : ¬ (nI j < 0 ∨ n ≤ (nI j).toNatClampNeg) := vp_in_nI hj hb
  refine W.last hC.1.1 hC.1.2.1 (hC.2.2.1.2.2.2 a _ hF) (((gK hC.2.1.1 hC.2.1.2.1).2 1 _ rfl).1 n (fun j => .long (f j))) (fun q => by cases q) (by show ¬ (nI j < 0 ∨ (arrV _ _ _).slots.size ≤ _); rw [arrV_size]; exact hin) rfl rfl hd fun H1 e1 e2 e3 => ?_
  rw [hcl] at e1 ⊢
  refine k _ _ _ _ _ _ _ _ _ _ _ _ _ _ _ _ (hC.heap (hC.2.2.1.put ha ?_ e2 e3) (Nat.le_of_eq e2.symm) (loc_add hC.2.2.2.1 ha))
  show H1[a]? = some (vp_cell _ _)
  rw [e1]
  rw [vp_cell_l, vp_cell_l, arrV_store]
  congr 2
  funext q
  by_cases hq : q = j
  · subst hq
    simp [updV, upd, vp_updL, vf_upd, vp_nar]
    try rfl
  · simp [updV, upd, vp_updL, vf_upd, hq]
theorem AF.castore {a n : Nat} {i : Int32} {x : Int32} {f : Nat → Int32} (j : Nat) (hd : decode mi.2.1 pc = .ok (.castore, 1)) (hF : F.2 a = some (.inl (gC G 2, n, .inl f))) (ha : gN G ≤ a) (hi : i = nI j) (hj : j < n) (hb : n < 2 ^ 31) (k : AF G mi d bc bs R (F.1, pu F.2 a (.inl (gC G 2, n, .inl (upd f j (vp_nar .char x))))) (pc + 1) ls st) : AF G mi d bc bs R F pc ls (.int x :: .int i :: .ref a :: st) := by
  intro p e Rm s m args below meth c mc ms H locs cells slots ls0 hC
  subst hi
  have hcl := nI_clamp (Nat.lt_trans hj hb)
  have hin : ¬ (nI j < 0 ∨ n ≤ (nI j).toNatClampNeg) := vp_in_nI hj hb
  refine W.cast hC.1.1 hC.1.2.1 (hC.2.2.1.2.2.2 a _ hF) (((gK hC.2.1.1 hC.2.1.2.1).2 2 _ rfl).1 n (fun j => .int (f j))) (fun q => by cases q) (by show ¬ (nI j < 0 ∨ (arrV _ _ _).slots.size ≤ _); rw [arrV_size]; exact hin) rfl rfl hd fun H1 e1 e2 e3 => ?_
  rw [hcl] at e1 ⊢
  refine k _ _ _ _ _ _ _ _ _ _ _ _ _ _ _ _ (hC.heap (hC.2.2.1.put ha ?_ e2 e3) (Nat.le_of_eq e2.symm) (loc_add hC.2.2.2.1 ha))
  show H1[a]? = some (vp_cell _ _)
  rw [e1]
  rw [vp_cell_i, vp_cell_i, arrV_store]
  congr 2
  funext q
  by_cases hq : q = j
  · subst hq
    simp [updV, upd, vp_updL, vf_upd, vp_nar]
    try rfl
  · simp [updV, upd, vp_updL, vf_upd, hq]
theorem AF.arraylength {a : Nat} {cA : ClassId} {x : vp_A} {t0 : Nat} {ty : FieldType} (v : Int32) (hd : decode mi.2.1 pc = .ok (.arraylength, 1)) (hF : F.2 a = some (.inl (cA, x))) (ht : (gtys G.2.2.2.1)[t0]? = some (cA, ty)) (hv : Int32.ofNat x.1 = v) (k : AF G mi d bc bs R F (pc + 1) ls (.int v :: st)) : AF G mi d bc bs R F pc ls (.ref a :: st) := by
  intro p e Rm s m args below meth c mc ms H locs cells slots ls0 hC
  exact va_alen hC.1.1 hC.1.2.1 (gK hC.2.1.1 hC.2.1.2.1) (hC.2.2.1.P1 hF) 0 t0 rfl ht hv hd (k _ _ _ _ _ _ _ _ _ _ _ _ _ _ _ _ hC)
theorem AF.aaload {a n : Nat} {i : Int32} {f : Nat → Option Nat} {v : Value} (j : Nat) (hd : decode mi.2.1 pc = .ok (.aaload, 1)) (hF : F.2 a = some (.inl (gC G 4, n, .inr (.inr (.inr (.inr f)))))) (hi : i = nI j) (hj : j < n) (hb : n < 2 ^ 31) (hv : va_rf (f j) = v) (k : AF G mi d bc bs R F (pc + 1) ls (v :: st)) : AF G mi d bc bs R F pc ls (.int i :: .ref a :: st) := by
  intro p e Rm s m args below meth c mc ms H locs cells slots ls0 hC
  subst hi
  subst hv
  refine va_aldq hC.1.1 hC.1.2.1 (gK hC.2.1.1 hC.2.1.2.1) (hC.2.2.1.P1 hF) 0 4 rfl rfl (vp_in_nI hj hb) hd ?_
  rw [nI_clamp (Nat.lt_trans hj hb)]
  exact (k _ _ _ _ _ _ _ _ _ _ _ _ _ _ _ _ hC)
end AFH
