/-! The layer: more rows (shifts, wide constants, statics of which little is known). -/
section AFZ
variable {G : GA} {mi : MI} {d bc bs : Nat} {R : AR → AH → Prop} {F : AH} {pc : Nat} {ls : List (Option Value)} {st : List Value}
theorem AF.ishr0 {x : Int32} (hd : decode mi.2.1 pc = .ok (.ishr, 1)) (k : AF G mi d bc bs R F (pc + 1) ls (.int x :: st)) : AF G mi d bc bs R F pc ls (.int 0 :: .int x :: st) := by
  intro p e Rm s m args below meth c mc ms H locs cells slots ls0 hC
  refine lv_ishr hC.1.1 hC.1.2.1 hd ?_
  rw [sb_shr0]
  exact k _ _ _ _ _ _ _ _ _ _ _ _ _ _ _ _ hC
theorem AF.ishl {x y : Int32} (hd : decode mi.2.1 pc = .ok (.ishl, 1)) (k : AF G mi d bc bs R F (pc + 1) ls (.int (x <<< (y &&& 31)) :: st)) : AF G mi d bc bs R F pc ls (.int y :: .int x :: st) := by
  intro p e Rm s m args below meth c mc ms H locs cells slots ls0 hC
  exact lv_ishl hC.1.1 hC.1.2.1 hd (k _ _ _ _ _ _ _ _ _ _ _ _ _ _ _ _ hC)
theorem AF.i2b {x : Int32} (hd : decode mi.2.1 pc = .ok (.i2b, 1)) (k : AF G mi d bc bs R F (pc + 1) ls (.int x.toInt8.toInt32 :: st)) : AF G mi d bc bs R F pc ls (.int x :: st) := by
  intro p e Rm s m args below meth c mc ms H locs cells slots ls0 hC
  exact lv_i2b hC.1.1 hC.1.2.1 hd rfl (k _ _ _ _ _ _ _ _ _ _ _ _ _ _ _ _ hC)
theorem AF.dup_x1 {v w : Value} (hd : decode mi.2.1 pc = .ok (.dup_x1, 1)) (hv : v.category = 1) (hw : w.category = 1) (k : AF G mi d bc bs R F (pc + 1) ls (v :: w :: v :: st)) : AF G mi d bc bs R F pc ls (v :: w :: st) := by
  intro p e Rm s m args below meth c mc ms H locs cells slots ls0 hC
  exact lv_dup_x1 hC.1.1 hC.1.2.1 hd hv hw (k _ _ _ _ _ _ _ _ _ _ _ _ _ _ _ _ hC)
theorem AF.getstaticQ {C n d9 : String} {idx : Nat} (hd : decode mi.2.1 pc = .ok (.getstatic idx, 3)) (hl : Cond.fieldLink mi.1.cls idx C n d9 ∈ lw_tbl ∨ ∃ host, Cond.fieldLinkNest mi.1.cls idx C n d9 host ∈ lw_tbl) (hZ : va_Zq C n d9 (gA G) G.2.1 G.2.1.heap) (k : ∀ v : Value, (v = .null ∨ ∃ a, v = .ref a) → AF G mi d bc bs R F (pc + 3) ls (v :: st)) : AF G mi d bc bs R F pc ls st := by
  rcases hZ with h | ⟨t, h⟩
  · exact AF.getstatic hd hl h (k _ (Or.inl rfl))
  · exact AF.getstatic hd hl h (k _ (Or.inr ⟨t, rfl⟩))
/-- a wide load of a String constant -/
theorem ldcW_string {p : Program} {l : Launch} {e : Env} {Rm : Room} {s : State} {m : MethodId} {args : Array Value} {below : List Frame} {meth : Method} {c : Code} {T : State} {locs : List Loc} {cells slots : Nat}
    (X : Stand p l e Rm s m args below meth c T locs cells slots) (hexec : p.tables.exec = Jvm.exec) {own text : String} {index : Nat} {a : Addr} (hown : s.vm.findClass own = some m.cls)
    (hconst : (Cond.stringRef own index text).before args s = true) (hev : (Term.string own index).eval args s none [] s = some (.ref a)) {g : JFrame} (hg : g.method = m) (hdg : decode c.code g.pc = .ok (.ldc_w index, 3)) :
    ∀ target, Steps p.tables e below (T.setTop { g with pc := g.pc + 3, stack := .ref a :: g.stack }) target → Steps p.tables e below (T.setTop g) target := by
  obtain ⟨k, cf, i, a', hk, hcf, hcp, -, hr, hev'⟩ := Cond.stringRef_spec hown hconst
  cases hev.symm.trans hev'
  obtain ⟨k', hk', he⟩ := X.warmed.alike.2.2 _ _ hk
  have hr' : k'.resolved[index]? = some (some (.string a)) := by
    rcases X.warmed.entry hk hk' index with h | ⟨h, -⟩
    · rw [h]; exact hr
    · rw [hr] at h; cases h
  intro target hrest
  subst hg
  jvm_step X.here [hexec, hdg, ldc_w.wp_string (e := e) (s := T) (f := g) X.here.top hk' (by rw [he]; exact hcf) hcp hr']
  exact hrest
theorem AF.ldcWS {tx : String} {idx : Nat} (hd : decode mi.2.1 pc = .ok (.ldc_w idx, 3)) (hl : Cond.stringRef mi.1.cls idx tx ∈ lw_tbl) (k : ∀ a v, STR G a v tx → AF G mi d bc bs R F (pc + 3) ls (.ref a :: st)) : AF G mi d bc bs R F pc ls st := by
  intro p e Rm s m args below meth c mc ms H locs cells slots ls0 hC
  obtain ⟨a, v, h1, h2⟩ := hC.2.1.1.2.2.2.2.2.1 _ _ _ hl
  have hZ := vk_R.warm hC.2.1.2.1 h1
  intro T hT X
  obtain ⟨t, a1, b1⟩ := k a v h2 _ _ _ _ _ _ _ _ _ _ _ _ _ _ _ _ hC T hT X
  exact ⟨t, ldcW_string X hC.1.1 hC.1.2.2.2.2.2.2.1 (text := tx) (a := a) hZ.1 hZ.2 (g := F0 m pc ls0 st) rfl (by rw [hC.1.2.1]; exact hd) t a1, b1⟩
theorem AF.bastoreF {a n : Nat} {i : Int32} {x : Int32} {f : Nat → Int32} (j : Nat) (hd : decode mi.2.1 pc = .ok (.bastore, 1)) (hF : F.2 a = some (.inl (gC G 5, n, .inl f))) (ha : gN G ≤ a) (hi : i = nI j) (hj : j < n) (hb : n < 2 ^ 31) (k : ∀ F' : AH, F'.1 = F.1 → F'.2 a = some (.inl (gC G 5, n, .inl (upd f j (vp_nar .byte x)))) → (∀ q, ¬ q = a → F'.2 q = F.2 q) → AF G mi d bc bs R F' (pc + 1) ls st) : AF G mi d bc bs R F pc ls (.int x :: .int i :: .ref a :: st) := by
  have kk : AF G mi d bc bs R (F.1, pu F.2 a (.inl (gC G 5, n, .inl (upd f j (vp_nar .byte x))))) (pc + 1) ls st := k _ rfl pu_s (fun _ h => pu_n h)
  intro p e Rm s m args below meth c mc ms H locs cells slots ls0 hC
  subst hi
  have hcl := nI_clamp (Nat.lt_trans hj hb)
  have hin : ¬ (nI j < 0 ∨ n ≤ (nI j).toNatClampNeg) := vp_in_nI hj hb
  refine W.bast hC.1.1 hC.1.2.1 (hC.2.2.1.2.2.2 a _ hF) (((gK hC.2.1.1 hC.2.1.2.1).2 5 _ rfl).1 n (fun j => .int (f j))) (fun q => by cases q) (by show ¬ (nI j < 0 ∨ (arrV _ _ _).slots.size ≤ _); rw [arrV_size]; exact hin) rfl rfl hd fun H1 e1 e2 e3 => ?_
  rw [hcl] at e1
  refine kk _ _ _ _ _ _ _ _ _ _ _ _ _ _ _ _ (hC.heap (hC.2.2.1.put ha ?_ e2 e3) (Nat.le_of_eq e2.symm) (loc_add hC.2.2.2.1 ha))
  show H1[a]? = some (vp_cell _ _)
  rw [e1]
  rw [vp_cell_i, vp_cell_i, arrV_store]
  congr 2
  funext q
  by_cases hq : q = j
  · subst hq
    simp [updV, upd, vp_updL, vf_upd, vp_nar]
    try rfl
  · simp [updV, upd, vp_updL, vf_upd, hq]
end AFZ

