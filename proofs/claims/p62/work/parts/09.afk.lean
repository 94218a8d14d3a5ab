/-! The layer: constants, makings, copies, library functions. -/
section AFK
variable {G : GA} {mi : MI} {d bc bs : Nat} {R : AR → AH → Prop} {F : AH} {pc : Nat} {ls : List (Option Value)} {st : List Value}
section
variable {p : Program} {e : Env} {Rm : Room} {s : State} {m : MethodId} {args : Array Value} {below : List Frame} {meth : Method} {c : Code} {mc ms : Nat} {H : Heap} {locs : List Loc} {cells slots : Nat} {ls0 : Array Slot}
theorem Cf.cz (hC : Cf G mi d bc bs F ls p e Rm s m args below meth c mc ms H locs cells slots ls0) {C n d9 : String} {v : Value} (h : va_Z C n d9 v (gA G) G.2.1 G.2.1.heap) : va_Z C n d9 v (gA G) s s.heap := va_Z.moved hC.2.1.2.1.alike (h.kept (fun a h1 _ => hC.2.1.2.2.2.1 a h1))
theorem Cf.cT (hC : Cf G mi d bc bs F ls p e Rm s m args below meth c mc ms H locs cells slots ls0) {ty : FieldType} {t N : Nat} {f : Nat → Value} (h : va_T ty t N f (gA G) G.2.1 G.2.1.heap) : va_T ty t N f (gA G) s s.heap := va_T.moved hC.2.1.2.1.alike (h.kept (fun a h1 _ => hC.2.1.2.2.2.1 a h1))
theorem Cf.cF (hC : Cf G mi d bc bs F ls p e Rm s m args below meth c mc ms H locs cells slots ls0) {o n d9 : String} {v : Value} {t : Nat} (h : va_OF o n d9 v t (gA G) G.2.1 G.2.1.heap) : va_OF o n d9 v t (gA G) s s.heap := va_OF.moved hC.2.1.2.1.alike (h.kept (fun a h1 _ => hC.2.1.2.2.2.1 a h1))
theorem Cf.cO (hC : Cf G mi d bc bs F ls p e Rm s m args below meth c mc ms H locs cells slots ls0) {E : String} {t : Nat} (h : va_O E t (gA G) G.2.1 G.2.1.heap) : va_O E t (gA G) s s.heap := va_O.moved hC.2.1.2.1.alike (h.kept (fun a h1 _ => hC.2.1.2.2.2.1 a h1))
end
theorem AF.ok (k : GOK G → AF G mi d bc bs R F pc ls st) : AF G mi d bc bs R F pc ls st := by
  intro p e Rm s m args below meth c mc ms H locs cells slots ls0 hC
  exact k hC.2.1.1 _ _ _ _ _ _ _ _ _ _ _ _ _ _ _ _ hC
theorem AF.getstatic {C n d9 : String} {idx : Nat} {v : Value} (hd : decode mi.2.1 pc = .ok (.getstatic idx, 3)) (hl : Cond.fieldLink mi.1.cls idx C n d9 ∈ lw_tbl ∨ ∃ host, Cond.fieldLinkNest mi.1.cls idx C n d9 host ∈ lw_tbl) (hZ : va_Z C n d9 v (gA G) G.2.1 G.2.1.heap) (k : AF G mi d bc bs R F (pc + 3) ls (v :: st)) : AF G mi d bc bs R F pc ls st := by
  intro p e Rm s m args below meth c mc ms H locs cells slots ls0 hC
  rcases hl with hl | ⟨host, hl⟩
  · exact va_gets hC.1.1 hC.1.2.1 (hC.cz hZ) hC.vS hC.1.2.2.2.2.2.2.1 (gw hC.2.1.1 hC.2.1.2.1 hl rfl) (fun _ h => h) hd (k _ _ _ _ _ _ _ _ _ _ _ _ _ _ _ _ hC)
  · exact va_getsN hC.1.1 hC.1.2.1 (hC.cz hZ) hC.vS hC.1.2.2.2.2.2.2.1 (gwF hC.2.1.1 hC.2.1.2.1 hl) (fun _ h => h) hd (k _ _ _ _ _ _ _ _ _ _ _ _ _ _ _ _ hC)
theorem AF.getfieldC {o n d9 : String} {idx q : Nat} {v : Value} (hd : decode mi.2.1 pc = .ok (.getfield idx, 3)) (hl : Cond.fieldLink mi.1.cls idx o n d9 ∈ lw_tbl ∨ ∃ host, Cond.fieldLinkNest mi.1.cls idx o n d9 host ∈ lw_tbl) (hE : va_OF o n d9 v q (gA G) G.2.1 G.2.1.heap) (k : AF G mi d bc bs R F (pc + 3) ls (v :: st)) : AF G mi d bc bs R F pc ls (.ref q :: st) := by
  intro p e Rm s m args below meth c mc ms H locs cells slots ls0 hC
  rcases hl with hl | ⟨host, hl⟩
  · exact vk_getf hC.1.1 hC.1.2.1 (hC.cF hE) hC.vS hC.1.2.2.2.2.2.2.1 (gw hC.2.1.1 hC.2.1.2.1 hl rfl) (fun _ h => h) hd (k _ _ _ _ _ _ _ _ _ _ _ _ _ _ _ _ hC)
  · obtain ⟨cf, k9, i, f, cell, h1, h2, h3, h4, h5, h6⟩ := (hC.cF hE).kept hC.vS.2.1
    exact va_Wgetf hC.1.1 hC.1.2.1 hC.1.2.2.2.2.2.2.1 (gwF hC.2.1.1 hC.2.1.2.1 hl) h1 h2 h3 h4 (v := v) h5 rfl rfl hd (k _ _ _ _ _ _ _ _ _ _ _ _ _ _ _ _ hC)
theorem AF.ialoadT {t N : Nat} {i : Int32} {f : Nat → Value} {v : Value} (j : Nat) (hd : decode mi.2.1 pc = .ok (.iaload, 1)) (hT : va_T .int t N f (gA G) G.2.1 G.2.1.heap) (hi : i = nI j) (hj : j < N) (hb : N < 2 ^ 31) (hv : f j = v) (k : AF G mi d bc bs R F (pc + 1) ls (v :: st)) : AF G mi d bc bs R F pc ls (.int i :: .ref t :: st) := by
  intro p e Rm s m args below meth c mc ms H locs cells slots ls0 hC
  subst hi
  exact va_ti hC.1.1 hC.1.2.1 (hC.cT hT) hC.vS (vp_in_nI hj hb) (by rw [nI_clamp (Nat.lt_trans hj hb)]; exact hv) hd (k _ _ _ _ _ _ _ _ _ _ _ _ _ _ _ _ hC)
theorem AF.baloadT {t N : Nat} {i : Int32} {f : Nat → Value} {v : Value} (j : Nat) (hd : decode mi.2.1 pc = .ok (.baload, 1)) (hT : va_T .byte t N f (gA G) G.2.1 G.2.1.heap) (hi : i = nI j) (hj : j < N) (hb : N < 2 ^ 31) (hv : f j = v) (k : AF G mi d bc bs R F (pc + 1) ls (v :: st)) : AF G mi d bc bs R F pc ls (.int i :: .ref t :: st) := by
  intro p e Rm s m args below meth c mc ms H locs cells slots ls0 hC
  subst hi
  exact va_tb hC.1.1 hC.1.2.1 (hC.cT hT) hC.vS (vp_in_nI hj hb) (by rw [nI_clamp (Nat.lt_trans hj hb)]; exact hv) hd (k _ _ _ _ _ _ _ _ _ _ _ _ _ _ _ _ hC)
theorem AF.aaloadT {t N : Nat} {ty : FieldType} (href : ty.isReference = true) {i : Int32} {f : Nat → Value} {v : Value} (j : Nat) (hd : decode mi.2.1 pc = .ok (.aaload, 1)) (hT : va_T ty t N f (gA G) G.2.1 G.2.1.heap) (hi : i = nI j) (hj : j < N) (hb : N < 2 ^ 31) (hv : f j = v) (k : AF G mi d bc bs R F (pc + 1) ls (v :: st)) : AF G mi d bc bs R F pc ls (.int i :: .ref t :: st) := by
  intro p e Rm s m args below meth c mc ms H locs cells slots ls0 hC
  subst hi
  obtain ⟨cell, h1, h2, h3, h4, h5, h6, h7⟩ := hC.cT hT
  have hcl := nI_clamp (Nat.lt_trans hj hb)
  have hin : ¬ (nI j < 0 ∨ cell.slots.size ≤ (nI j).toNatClampNeg) := by
    have h9 := vp_in_nI hj hb
    intro q
    rcases q with q | q
    · exact h9 (Or.inl q)
    · rw [hcl] at q; omega
  exact W.aald (v := v) hC.1.1 hC.1.2.1 (by rw [hC.vS.2.1 t (Array.getElem?_eq_some_iff.mp h1).1 h7]; exact h1) h2 href h3 hin (by rw [hcl, h6 _ hj, hv]) rfl rfl hd (k _ _ _ _ _ _ _ _ _ _ _ _ _ _ _ _ hC)
theorem AF.arraylengthT {t N : Nat} {ty : FieldType} {f : Nat → Value} {v : Int32} (hd : decode mi.2.1 pc = .ok (.arraylength, 1)) (hT : va_T ty t N f (gA G) G.2.1 G.2.1.heap) (hv : Int32.ofNat N = v) (k : AF G mi d bc bs R F (pc + 1) ls (.int v :: st)) : AF G mi d bc bs R F pc ls (.ref t :: st) := by
  intro p e Rm s m args below meth c mc ms H locs cells slots ls0 hC
  exact va_tlen hC.1.1 hC.1.2.1 (hC.cT hT) hC.vS hv hd (k _ _ _ _ _ _ _ _ _ _ _ _ _ _ _ _ hC)
theorem AF.ldcS {tx : String} {idx : Nat} (hd : decode mi.2.1 pc = .ok (.ldc idx, 2)) (hl : Cond.stringRef mi.1.cls idx tx ∈ lw_tbl) (k : ∀ a v, STR G a v tx → AF G mi d bc bs R F (pc + 2) ls (.ref a :: st)) : AF G mi d bc bs R F pc ls st := by
  intro p e Rm s m args below meth c mc ms H locs cells slots ls0 hC
  obtain ⟨a, v, h1, h2⟩ := hC.2.1.1.2.2.2.2.2.1 _ _ _ hl
  exact va_ldcS hC.1.1 hC.1.2.1 hC.1.2.2.2.2.2.2.1 (vk_R.warm hC.2.1.2.1 h1) hd (k a v h2 _ _ _ _ _ _ _ _ _ _ _ _ _ _ _ _ hC)
theorem AF.acmp_eq {x y : Nat} {off : Int} (tgt : Nat) (hd : decode mi.2.1 pc = .ok (.if_acmp .eq off, 3)) (ht : (pc : Int) + off = (tgt : Int)) (kt : x = y → AF G mi d bc bs R F tgt ls st) (kf : ¬ x = y → AF G mi d bc bs R F (pc + 3) ls st) : AF G mi d bc bs R F pc ls (.ref y :: .ref x :: st) := by
  intro p e Rm s m args below meth c mc ms H locs cells slots ls0 hC
  exact lv_acmp_eq (rx := some x) (ry := some y) hC.1.1 hC.1.2.1 hd ht (fun h => kt (Option.some.inj h) _ _ _ _ _ _ _ _ _ _ _ _ _ _ _ _ hC) (fun h => kf (fun q => h (by rw [q])) _ _ _ _ _ _ _ _ _ _ _ _ _ _ _ _ hC)
/-- Math.min, max, abs -/
def KM (own : String) (idx : Nat) (y : MethodName) (cc : ByteArray) (ret : FieldType) : Prop := Cond.methodLink own idx y ∈ lw_tbl ∧ Cond.static y ∈ lw_tbl ∧ Cond.initialized "java/lang/Math" ∈ lw_tbl ∧ Cond.code y cc 2 (some ret) ∈ lw_tbl
theorem AF.min {idx : Nat} {x y : Int32} (hd : decode mi.2.1 pc = .ok (.invokestatic idx, 3)) (hk : KM mi.1.cls idx Lib.Math.min.name Lib.Math.min.code .int) (hw : (st.map fun v => v.category).sum ≤ 8) (hdd : 1 ≤ d) (k : AF G mi d bc bs R F (pc + 3) ls (.int (if y < x then y else x) :: st)) : AF G mi d bc bs R F pc ls (.int y :: .int x :: st) := by
  intro p e Rm s m args below meth c mc ms H locs cells slots ls0 hC
  obtain ⟨w1, w2, w3, w4⟩ := hk
  have hG := hC.2.1.1
  have hW := hC.2.1.2.1
  obtain ⟨a1, a2, a3, a4, a5, a6⟩ := hC.2.2.2.2.2
  exact va_mmin hC.1.1 hC.1.2.1 (hC.1.2.2.2.1.trans hC.2.2.2.2.1.1.symm) hC.1.2.2.2.2.2.2.1 (gw hG hW w1 rfl) (gw hG hW w2 rfl) (gw hG hW w3 rfl) (gw hG hW w4 rfl) (by omega) (by omega) (by omega) (by omega) hd (k _ _ _ _ _ _ _ _ _ _ _ _ _ _ _ _ hC)
theorem AF.max {idx : Nat} {x y : Int32} (hd : decode mi.2.1 pc = .ok (.invokestatic idx, 3)) (hk : KM mi.1.cls idx Lib.Math.max.name Lib.Math.max.code .int) (hw : (st.map fun v => v.category).sum ≤ 8) (hdd : 1 ≤ d) (k : AF G mi d bc bs R F (pc + 3) ls (.int (if x < y then y else x) :: st)) : AF G mi d bc bs R F pc ls (.int y :: .int x :: st) := by
  intro p e Rm s m args below meth c mc ms H locs cells slots ls0 hC
  obtain ⟨w1, w2, w3, w4⟩ := hk
  have hG := hC.2.1.1
  have hW := hC.2.1.2.1
  obtain ⟨a1, a2, a3, a4, a5, a6⟩ := hC.2.2.2.2.2
  exact va_mmax hC.1.1 hC.1.2.1 (hC.1.2.2.2.1.trans hC.2.2.2.2.1.1.symm) hC.1.2.2.2.2.2.2.1 (gw hG hW w1 rfl) (gw hG hW w2 rfl) (gw hG hW w3 rfl) (gw hG hW w4 rfl) (by omega) (by omega) (by omega) (by omega) hd (k _ _ _ _ _ _ _ _ _ _ _ _ _ _ _ _ hC)
theorem AF.labs {idx : Nat} {x : Int64} (hd : decode mi.2.1 pc = .ok (.invokestatic idx, 3)) (hk : KM mi.1.cls idx Lib.MathLoose.abs_long.x Lib.MathLoose.abs_long.code .long) (hw : (st.map fun v => v.category).sum ≤ 8) (hdd : 1 ≤ d) (k : AF G mi d bc bs R F (pc + 3) ls (.long (if 0 < x then x else -x) :: st)) : AF G mi d bc bs R F pc ls (.long x :: st) := by
  intro p e Rm s m args below meth c mc ms H locs cells slots ls0 hC
  obtain ⟨w1, w2, w3, w4⟩ := hk
  have hG := hC.2.1.1
  have hW := hC.2.1.2.1
  obtain ⟨a1, a2, a3, a4, a5, a6⟩ := hC.2.2.2.2.2
  exact va_mabs_long hC.1.1 hC.1.2.1 (hC.1.2.2.2.1.trans hC.2.2.2.2.1.1.symm) hC.1.2.2.2.2.2.2.1 (gw hG hW w1 rfl) (gw hG hW w2 rfl) (gw hG hW w3 rfl) (gw hG hW w4 rfl) (by omega) (by omega) (by omega) (by omega) hd (k _ _ _ _ _ _ _ _ _ _ _ _ _ _ _ _ hC)
/-- Object's constructor -/
def KO (own : String) (idx : Nat) : Prop := Cond.methodLink own idx Lib.objectInit ∈ lw_tbl ∧ Cond.instanceMethod Lib.objectInit ∈ lw_tbl ∧ Cond.code Lib.objectInit ⟨#[0xb1]⟩ 1 none ∈ lw_tbl
theorem AF.objInit {idx a : Nat} (hd : decode mi.2.1 pc = .ok (.invokespecial idx, 3)) (hk : KO mi.1.cls idx) (hw : (st.map fun v => v.category).sum ≤ 8) (hdd : 1 ≤ d) (k : AF G mi d bc bs R F (pc + 3) ls st) : AF G mi d bc bs R F pc ls (.ref a :: st) := by
  intro p e Rm s m args below meth c mc ms H locs cells slots ls0 hC
  obtain ⟨w1, w2, w3⟩ := hk
  have hG := hC.2.1.1
  have hW := hC.2.1.2.1
  obtain ⟨a1, a2, a3, a4, a5, a6⟩ := hC.2.2.2.2.2
  exact W.objInit hC.1.1 hC.1.2.1 hC.1.2.2.2.2.2.2.1 (gw hG hW w1 rfl) (gw hG hW w2 rfl) (gw hG hW w3 rfl) rfl (hC.2.2.2.2.1.1.trans hC.1.2.2.2.1.symm) rfl hd (by omega) (by show 2 * 0 + _ + 12 ≤ _; omega) (k _ _ _ _ _ _ _ _ _ _ _ _ _ _ _ _ hC)
/-- a new object of kind ci -/
def KN (own : String) (idx ci : Nat) (fs : List Value) : Prop := ∃ (C : String) (T : u_T) (N : Nat) (ty : Nat → FieldType), cls[ci]? = some (C, T, N) ∧ (∀ w ∈ u_ws C T N, w ∈ lw_tbl) ∧ (∀ k, k < N → parseFieldDescriptor (T k).2.2.1 = some (ty k)) ∧ Cond.classLink own idx C ∈ lw_tbl ∧ Cond.instantiable C N ∈ lw_tbl ∧ Cond.initialized C ∈ lw_tbl ∧ (∀ j, j < N → defaultValue (ty j) = vp_V fs j) ∧ fs.length = N
theorem AF.new {idx ci n : Nat} {fs : List Value} (hd : decode mi.2.1 pc = .ok (.new idx, 3)) (hk : KN mi.1.cls idx ci fs) (hn : fs.length = n) (kk : ∀ F' : AH, F'.1 = F.1 + 1 → F'.2 F.1 = some (.inr (ci, fs)) → (∀ q, ¬ q = F.1 → F'.2 q = F.2 q) → AF G mi d bc bs R F' (pc + 3) ls (.ref F.1 :: st)) : AF G mi d (bc + 1) (bs + n) R F pc ls st := by
  intro p e Rm s m args below meth c mc ms H locs cells slots ls0 hC
  obtain ⟨C, T, N, ty, hc, hin, hty, w1, w2, w3, hfs, hl⟩ := hk
  have hG := hC.2.1.1
  have hW := hC.2.1.2.1
  have hts := lay_at (args := args) hG hW hin
  have hKn := (gK hG hW).1 ci _ hc
  have hs : H.size = F.1 := hC.2.2.1.1
  have hC' := hC.pay rfl rfl
  have b := hC'.2.2.2.2.2
  subst hn
  rw [hl] at hC' b
  refine W.newcK hC.1.1 hC.1.2.1 hC.1.2.2.2.2.2.2.1 (gw hG hW w1 rfl) (gw hG hW w2 rfl) (gw hG hW w3 rfl) rfl hd (by omega) (by omega) hKn.2.1 hs fun H1 kC hkC e1 z1 o1 => ?_
  exact kk (F.1 + 1, pu F.2 F.1 (.inr (ci, fs))) rfl pu_s (fun q h => pu_n h) _ _ _ _ _ _ _ _ _ _ _ _ _ _ _ _ (hC'.heap (hC.2.2.1.new ⟨_, hc, (u_born ty hts (fun _ h => h) hKn hkC e1 hty).to hfs⟩ z1 (fun q hq => o1 q hq)) (by omega) hC.2.2.2.1)

theorem AF.newI {n : Nat} {i : Int32} (hd : decode mi.2.1 pc = .ok (.newarray .int, 2)) (hw : Cond.arrayClass .int ∈ lw_tbl) (hi : i = nI n) (hn : n < 2 ^ 20) (kk : ∀ F' : AH, F'.1 = F.1 + 1 → F'.2 F.1 = some (.inl (gC G 0, n, .inl (fun _ => 0))) → (∀ q, ¬ q = F.1 → F'.2 q = F.2 q) → AF G mi d bc bs R F' (pc + 2) ls (.ref F.1 :: st)) : AF G mi d (bc + 1) (bs + n) R F pc ls (.int i :: st) := by
  intro p e Rm s m args below meth c mc ms H locs cells slots ls0 hC
  subst hi
  have hG := hC.2.1.1
  have hW := hC.2.1.2.1
  have hs : H.size = F.1 := hC.2.2.1.1
  have hC' := hC.pay rfl rfl
  have b := hC'.2.2.2.2.2
  have hcl := nI_clamp (n := n) (by omega)
  refine W.newa (atype := .int) hC.1.1 hC.1.2.1 (gw hG hW hw rfl) rfl hd rfl (nI_pos (by omega)) (by rw [hcl]; show n * componentBytes .int ≤ _; simp only [componentBytes]; omega) (by omega) (by rw [hcl]; omega) fun cA kA comp h1 h2 h3 => ?_
  have hca : s.vm.findClass ("[" ++ (.int : FieldType).toString) = some (gC G 0) := ((gK hG hW).2 0 _ rfl).2
  have e1 : cA = gC G 0 := Option.some.inj (h1.symm.trans hca)
  subst e1
  rw [hcl, hs]
  refine kk (F.1 + 1, pu F.2 F.1 (.inl (gC G 0, n, .inl (fun _ => 0)))) rfl pu_s (fun q h => pu_n h) _ _ _ _ _ _ _ _ _ _ _ _ _ _ _ _ (hC'.heap (hC.2.2.1.new ?_ (by rw [Array.size_push, hs]) (fun q hq => by rw [Array.getElem?_push, if_neg (by omega)])) (by rw [Array.size_push]; omega) hC.2.2.2.1)
  show (Array.push H _)[F.1]? = some (vp_cell _ _)
  rw [← hs, arrV_new]
  simp only [Array.getElem?_push_size]
  rfl
theorem AF.newJ {n : Nat} {i : Int32} (hd : decode mi.2.1 pc = .ok (.newarray .long, 2)) (hw : Cond.arrayClass .long ∈ lw_tbl) (hi : i = nI n) (hn : n < 2 ^ 20) (kk : ∀ F' : AH, F'.1 = F.1 + 1 → F'.2 F.1 = some (.inl (gC G 1, n, .inr (.inl (fun _ => 0)))) → (∀ q, ¬ q = F.1 → F'.2 q = F.2 q) → AF G mi d bc bs R F' (pc + 2) ls (.ref F.1 :: st)) : AF G mi d (bc + 1) (bs + n) R F pc ls (.int i :: st) := by
  intro p e Rm s m args below meth c mc ms H locs cells slots ls0 hC
  subst hi
  have hG := hC.2.1.1
  have hW := hC.2.1.2.1
  have hs : H.size = F.1 := hC.2.2.1.1
  have hC' := hC.pay rfl rfl
  have b := hC'.2.2.2.2.2
  have hcl := nI_clamp (n := n) (by omega)
  refine W.newa (atype := .long) hC.1.1 hC.1.2.1 (gw hG hW hw rfl) rfl hd rfl (nI_pos (by omega)) (by rw [hcl]; show n * componentBytes .long ≤ _; simp only [componentBytes]; omega) (by omega) (by rw [hcl]; omega) fun cA kA comp h1 h2 h3 => ?_
  have hca : s.vm.findClass ("[" ++ (.long : FieldType).toString) = some (gC G 1) := ((gK hG hW).2 1 _ rfl).2
  have e1 : cA = gC G 1 := Option.some.inj (h1.symm.trans hca)
  subst e1
  rw [hcl, hs]
  refine kk (F.1 + 1, pu F.2 F.1 (.inl (gC G 1, n, .inr (.inl (fun _ => 0))))) rfl pu_s (fun q h => pu_n h) _ _ _ _ _ _ _ _ _ _ _ _ _ _ _ _ (hC'.heap (hC.2.2.1.new ?_ (by rw [Array.size_push, hs]) (fun q hq => by rw [Array.getElem?_push, if_neg (by omega)])) (by rw [Array.size_push]; omega) hC.2.2.2.1)
  show (Array.push H _)[F.1]? = some (vp_cell _ _)
  rw [← hs, arrV_new]
  simp only [Array.getElem?_push_size]
  rfl
theorem AF.newC {n : Nat} {i : Int32} (hd : decode mi.2.1 pc = .ok (.newarray .char, 2)) (hw : Cond.arrayClass .char ∈ lw_tbl) (hi : i = nI n) (hn : n < 2 ^ 20) (kk : ∀ F' : AH, F'.1 = F.1 + 1 → F'.2 F.1 = some (.inl (gC G 2, n, .inl (fun _ => 0))) → (∀ q, ¬ q = F.1 → F'.2 q = F.2 q) → AF G mi d bc bs R F' (pc + 2) ls (.ref F.1 :: st)) : AF G mi d (bc + 1) (bs + n) R F pc ls (.int i :: st) := by
  intro p e Rm s m args below meth c mc ms H locs cells slots ls0 hC
  subst hi
  have hG := hC.2.1.1
  have hW := hC.2.1.2.1
  have hs : H.size = F.1 := hC.2.2.1.1
  have hC' := hC.pay rfl rfl
  have b := hC'.2.2.2.2.2
  have hcl := nI_clamp (n := n) (by omega)
  refine W.newa (atype := .char) hC.1.1 hC.1.2.1 (gw hG hW hw rfl) rfl hd rfl (nI_pos (by omega)) (by rw [hcl]; show n * componentBytes .char ≤ _; simp only [componentBytes]; omega) (by omega) (by rw [hcl]; omega) fun cA kA comp h1 h2 h3 => ?_
  have hca : s.vm.findClass ("[" ++ (.char : FieldType).toString) = some (gC G 2) := ((gK hG hW).2 2 _ rfl).2
  have e1 : cA = gC G 2 := Option.some.inj (h1.symm.trans hca)
  subst e1
  rw [hcl, hs]
  refine kk (F.1 + 1, pu F.2 F.1 (.inl (gC G 2, n, .inl (fun _ => 0)))) rfl pu_s (fun q h => pu_n h) _ _ _ _ _ _ _ _ _ _ _ _ _ _ _ _ (hC'.heap (hC.2.2.1.new ?_ (by rw [Array.size_push, hs]) (fun q hq => by rw [Array.getElem?_push, if_neg (by omega)])) (by rw [Array.size_push]; omega) hC.2.2.2.1)
  show (Array.push H _)[F.1]? = some (vp_cell _ _)
  rw [← hs, arrV_new]
  simp only [Array.getElem?_push_size]
  rfl
theorem AF.newB {n : Nat} {i : Int32} (hd : decode mi.2.1 pc = .ok (.newarray .byte, 2)) (hw : Cond.arrayClass .byte ∈ lw_tbl) (hi : i = nI n) (hn : n < 2 ^ 20) (kk : ∀ F' : AH, F'.1 = F.1 + 1 → F'.2 F.1 = some (.inl (gC G 5, n, .inl (fun _ => 0))) → (∀ q, ¬ q = F.1 → F'.2 q = F.2 q) → AF G mi d bc bs R F' (pc + 2) ls (.ref F.1 :: st)) : AF G mi d (bc + 1) (bs + n) R F pc ls (.int i :: st) := by
  intro p e Rm s m args below meth c mc ms H locs cells slots ls0 hC
  subst hi
  have hG := hC.2.1.1
  have hW := hC.2.1.2.1
  have hs : H.size = F.1 := hC.2.2.1.1
  have hC' := hC.pay rfl rfl
  have b := hC'.2.2.2.2.2
  have hcl := nI_clamp (n := n) (by omega)
  refine W.newa (atype := .byte) hC.1.1 hC.1.2.1 (gw hG hW hw rfl) rfl hd rfl (nI_pos (by omega)) (by rw [hcl]; show n * componentBytes .byte ≤ _; simp only [componentBytes]; omega) (by omega) (by rw [hcl]; omega) fun cA kA comp h1 h2 h3 => ?_
  have hca : s.vm.findClass ("[" ++ (.byte : FieldType).toString) = some (gC G 5) := ((gK hG hW).2 5 _ rfl).2
  have e1 : cA = gC G 5 := Option.some.inj (h1.symm.trans hca)
  subst e1
  rw [hcl, hs]
  refine kk (F.1 + 1, pu F.2 F.1 (.inl (gC G 5, n, .inl (fun _ => 0)))) rfl pu_s (fun q h => pu_n h) _ _ _ _ _ _ _ _ _ _ _ _ _ _ _ _ (hC'.heap (hC.2.2.1.new ?_ (by rw [Array.size_push, hs]) (fun q hq => by rw [Array.getElem?_push, if_neg (by omega)])) (by rw [Array.size_push]; omega) hC.2.2.2.1)
  show (Array.push H _)[F.1]? = some (vp_cell _ _)
  rw [← hs, arrV_new]
  simp only [Array.getElem?_push_size]
  rfl
theorem AF.anew {n idx : Nat} {i : Int32} (hd : decode mi.2.1 pc = .ok (.anewarray idx, 3)) (hw : Cond.classLink mi.1.cls idx RX7 ∈ lw_tbl ∧ Cond.arrayOver (.object RX7) ∈ lw_tbl) (hi : i = nI n) (hn : n < 2 ^ 20) (kk : ∀ F' : AH, F'.1 = F.1 + 1 → F'.2 F.1 = some (.inl (gC G 4, n, .inr (.inr (.inr (.inr (fun _ => none)))))) → (∀ q, ¬ q = F.1 → F'.2 q = F.2 q) → AF G mi d bc bs R F' (pc + 3) ls (.ref F.1 :: st)) : AF G mi d (bc + 1) (bs + n) R F pc ls (.int i :: st) := by
  intro p e Rm s m args below meth c mc ms H locs cells slots ls0 hC
  subst hi
  have hG := hC.2.1.1
  have hW := hC.2.1.2.1
  have hs : H.size = F.1 := hC.2.2.1.1
  have hC' := hC.pay rfl rfl
  have b := hC'.2.2.2.2.2
  have hcl := nI_clamp (n := n) (by omega)
  refine W.anew hC.1.1 hC.1.2.1 hC.1.2.2.2.2.2.2.1 (gw hG hW hw.1 rfl) (va_AO.use (va_AO.moved hW.alike (va_AO.of (hG.1 _ hw.2)))) rfl hd rfl (nI_pos (by omega)) (by rw [hcl]; omega) (by omega) (by rw [hcl]; omega) fun cA kA comp h1 h2 h3 h4 => ?_
  obtain ⟨kA', comp', -, -, -, hca⟩ := ((gK hG hW).2 4 _ rfl).2
  have e1 : cA = gC G 4 := Option.some.inj (h1.symm.trans hca)
  subst e1
  rw [hcl, hs]
  refine kk (F.1 + 1, pu F.2 F.1 (.inl (gC G 4, n, .inr (.inr (.inr (.inr (fun _ => none))))))) rfl pu_s (fun q h => pu_n h) _ _ _ _ _ _ _ _ _ _ _ _ _ _ _ _ (hC'.heap (hC.2.2.1.new ?_ (by rw [Array.size_push, hs]) (fun q hq => by rw [Array.getElem?_push, if_neg (by omega)])) (by rw [Array.size_push]; omega) hC.2.2.2.1)
  show (Array.push H _)[F.1]? = some (vp_cell _ _)
  rw [← hs, arrV_new]
  simp only [Array.getElem?_push_size]
  rfl
theorem AF.aastore {a n v : Nat} {i : Int32} {vs : List Value} {f : Nat → Option Nat} (j : Nat) (hd : decode mi.2.1 pc = .ok (.aastore, 1)) (hF : F.2 a = some (.inl (gC G 4, n, .inr (.inr (.inr (.inr f)))))) (hv : F.2 v = some (.inr (4, vs))) (ha : gN G ≤ a) (hi : i = nI j) (hj : j < n) (hb : n < 2 ^ 31) (kk : ∀ F' : AH, F'.1 = F.1 → F'.2 a = some (.inl (gC G 4, n, .inr (.inr (.inr (.inr (va_up f j (some v))))))) → (∀ q, ¬ q = a → F'.2 q = F.2 q) → AF G mi d bc bs R F' (pc + 1) ls st) : AF G mi d bc bs R F pc ls (.ref v :: .int i :: .ref a :: st) := by
  intro p e Rm s m args below meth c mc ms H locs cells slots ls0 hC
  subst hi
  have hG := hC.2.1.1
  have hW := hC.2.1.2.1
  have hK := gK hG hW
  have hcl := nI_clamp (n := j) (by omega)
  obtain ⟨r', hr', cellV, g1, g2, g3, -⟩ := hC.2.2.1.2.2.2 v _ hv
  have hcls := (hK.1 4 _ rfl).2
  obtain ⟨kA, comp, k1, k2, k3, -⟩ := (hK.2 4 _ rfl).2
  have hcomp : comp = G.2.2.1.1 4 := Option.some.inj (k3.symm.trans hcls.1)
  subst hcomp
  obtain ⟨kC, hkC, -⟩ := hcls.2
  refine W.aast hC.1.1 hC.1.2.1 (hC.2.2.1.2.2.2 a _ hF) (fun q h => by cases h) (fun h => by cases h) k1 k2 rfl hkC ⟨nI_pos (by omega), by rw [hcl]; show _ < (arrV _ _ _).slots.size; rw [arrV_size]; exact hj⟩ g1 (fun q h => by rw [g3] at h; cases h) (by rw [g2]; exact hkC) (by rw [g2]; exact va_assign hcls) rfl rfl hd fun H1 e1 e2 e3 => ?_
  rw [hcl] at e1 ⊢
  refine kk (F.1, pu F.2 a (.inl (gC G 4, n, .inr (.inr (.inr (.inr (va_up f j (some v)))))))) rfl pu_s (fun q h => pu_n h) _ _ _ _ _ _ _ _ _ _ _ _ _ _ _ _ (hC.heap (hC.2.2.1.put ha ?_ e2 e3) (Nat.le_of_eq e2.symm) (loc_add hC.2.2.2.1 ha))
  show H1[a]? = some (vp_cell _ _)
  rw [e1]
  rw [vp_cell_q, vp_cell_q, arrV_store]
  congr 2
  funext q
  by_cases hq : q = j
  · subst hq
    simp [updV, va_up, va_rf]
  · simp [updV, va_up, hq]
/-- System.arraycopy of ints -/
def KA (own : String) (idx : Nat) : Prop := Cond.methodLink own idx arraycopyName ∈ lw_tbl ∧ Cond.native arraycopyName ∈ lw_tbl ∧ Cond.static arraycopyName ∈ lw_tbl ∧ Cond.initialized "java/lang/System" ∈ lw_tbl
theorem AF.copyi {idx a0 a n0 n1 sp dp n : Nat} {f g : Nat → Int32} {isp idp i9 : Int32} (hd : decode mi.2.1 pc = .ok (.invokestatic idx, 3)) (hk : KA mi.1.cls idx) (ha0 : F.2 a0 = some (.inl (gC G 0, n0, .inl f))) (ha1 : F.2 a = some (.inl (gC G 0, n1, .inl g))) (ha : gN G ≤ a) (e1 : isp = nI sp) (e2 : idp = nI dp) (e3 : i9 = nI n) (h4 : sp + n ≤ n0) (h5 : dp + n ≤ n1) (hb : n0 < 2 ^ 31) (hb1 : n1 < 2 ^ 31) (hw : (st.map fun v => v.category).sum ≤ 8) (hdd : 1 ≤ d)
    (kk : ∀ F' : AH, F'.1 = F.1 → F'.2 a = some (.inl (gC G 0, n1, .inl (va_cpy f g sp dp n))) → (∀ q, ¬ q = a → F'.2 q = F.2 q) → AF G mi d bc bs R F' (pc + 3) ls st) : AF G mi d bc bs R F pc ls (.int i9 :: .int idp :: .ref a :: .int isp :: .ref a0 :: st) := by
  intro p e Rm s m args below meth c mc ms H locs cells slots ls0 hC
  subst e1 e2 e3
  obtain ⟨w1, w2, w3, w4⟩ := hk
  have hG := hC.2.1.1
  have hW := hC.2.1.2.1
  have hK := gK hG hW
  obtain ⟨a1, a2, a3, a4, a5, a6⟩ := hC.2.2.2.2.2
  have c1 := nI_clamp (n := sp) (by omega)
  have c2 := nI_clamp (n := dp) (by omega)
  have c3 := nI_clamp (n := n) (by omega)
  have t1 := nI_toInt (n := sp) (by omega)
  have t2 := nI_toInt (n := dp) (by omega)
  have t3 := nI_toInt (n := n) (by omega)
  have hnf : nativeFrameWords "java/lang/System" "arraycopy" 5 ≤ 7 := by decide +kernel
  intro T hT X
  have hc0 : H[a0]? = some (vp_cell (gC G 0) (n0, .inl f)) := hC.2.2.1.2.2.2 a0 _ ha0
  have hc1 : H[a]? = some (vp_cell (gC G 0) (n1, .inl g)) := hC.2.2.1.2.2.2 a _ ha1
  obtain ⟨-, k0, hk0, cm0, hkk0⟩ := (hK.2 0 _ rfl).1 n0 (fun j => .int (f j))
  obtain ⟨-, k1, hk1, cm1, hkk1⟩ := (hK.2 0 _ rfl).1 n1 (fun j => .int (g j))
  obtain ⟨vm', X', step⟩ := X.arraycopy hC.1.1 hC.1.2.2.2.2.2.2.1 (gw hG hW w1 rfl) (gw hG hW w2 rfl) (gw hG hW w3 rfl) (gw hG hW w4 rfl) (src := a0) (dst := a) (cs := vp_cell (gC G 0) (n0, .inl f)) (cd := vp_cell (gC G 0) (n1, .inl g)) (srcPos := nI sp) (destPos := nI dp) (n := nI n) (by rw [hT]; exact hc0) (by rw [hT]; exact hc1)
    (fun _ h => by cases h) (fun _ h => by cases h) (fun h => by cases h) (fun h => by cases h) hk0 hk1 hkk0 hkk1 (by simp [refKind]) (nI_pos (by omega)) (nI_pos (by omega)) (nI_pos (by omega))
    (by rw [t1, t3]; show ¬ _ > ((arrV (gC G 0) n0 (fun j => .int (f j))).slots.size : Int); rw [arrV_size]; omega)
    (by rw [t2, t3]; show ¬ _ > ((arrV (gC G 0) n1 (fun j => .int (g j))).slots.size : Int); rw [arrV_size]; omega)
    (fun vm₁ _ i hi => by
      rw [c3] at hi
      have e : (vp_cell (gC G 0) (n0, .inl f)).slots.getD ((nI sp).toNatClampNeg + i) .null = .int (f (sp + i)) := by
        rw [c1]
        show (arrV (gC G 0) n0 (fun j => .int (f j))).slots.getD _ _ = _
        rw [Array.getD_eq_getD_getElem?, arrV_read _ _ (by omega)]
        rfl
      refine ⟨?_, ?_⟩
      · rw [e]
        rfl
      · rw [e]
        exact trivial)
    (g := F0 m pc ls0 (.int (nI n) :: .int (nI dp) :: .ref a :: .int (nI sp) :: .ref a0 :: st)) rfl (hC.2.2.2.2.1.1.trans hC.1.2.2.2.1.symm) (rest := st) rfl (by rw [hC.1.2.1]; exact hd) (by omega) (by show 2 * 0 + _ + (nativeFrameWords _ _ 5 + 11) ≤ _; omega)
  have ec : copied (vp_cell (gC G 0) (n0, .inl f)) (vp_cell (gC G 0) (n1, .inl g)) (nI sp) (nI dp) (nI n) = vp_cell (gC G 0) (n1, .inl (va_cpy f g sp dp n)) := by
    have h9 := va_copied (fun z => .int z) (gC G 0) (gC G 0) (n0 := n0) (n1 := n1) (sp := (nI sp).toNatClampNeg) (dp := (nI dp).toNatClampNeg) (n := (nI n).toNatClampNeg) f g (by rw [c1, c3]; exact h4)
    have h8 : copied (vp_cell (gC G 0) (n0, .inl f)) (vp_cell (gC G 0) (n1, .inl g)) (nI sp) (nI dp) (nI n) = vp_cell (gC G 0) (n1, .inl (va_cpy f g (nI sp).toNatClampNeg (nI dp).toNatClampNeg (nI n).toNatClampNeg)) := h9
    rw [c1, c2, c3] at h8
    exact h8
  rw [ec] at X' step
  have hl : a < H.size := (Array.getElem?_eq_some_iff.mp hc1).1
  have hheap : ((T.setVm vm').setCell a (vp_cell (gC G 0) (n1, .inl (va_cpy f g sp dp n)))).heap = H.setIfInBounds a (vp_cell (gC G 0) (n1, .inl (va_cpy f g sp dp n))) := by rw [← hT]; rfl
  have oq : ∀ q : Nat, q ≠ a → (H.setIfInBounds a (vp_cell (gC G 0) (n1, .inl (va_cpy f g sp dp n))))[q]? = H[q]? := fun q hq => by simp [Array.getElem?_setIfInBounds, Ne.symm hq]
  obtain ⟨t, b1, b2⟩ := kk (F.1, pu F.2 a (.inl (gC G 0, n1, .inl (va_cpy f g sp dp n)))) rfl pu_s (fun q h => pu_n h) _ _ _ _ _ _ _ _ _ _ _ _ _ _ _ _ (hC.heap (hC.2.2.1.put (c := .inl (gC G 0, n1, .inl (va_cpy f g sp dp n))) ha (show (H.setIfInBounds a _)[a]? = some _ by simp [Array.getElem?_setIfInBounds, hl]) (by simp) oq) (by simp) (fun z hz => by
      rcases List.mem_append.mp hz with h | h
      · exact hC.2.2.2.1 z h
      · obtain ⟨z9, -, hz9⟩ := List.mem_map.mp h
        rw [← hz9]
        exact ha)) _ hheap X'
  exact ⟨t, step t b1, b2⟩
end AFK
