/-! Texts, constant or made: what the builder and the law ask of them. -/
section
variable {G : GA} {mi : MI} {d bc bs : Nat} {R : AR → AH → Prop} {F : AH} {pc : Nat} {ls : List (Option Value)} {st : List Value}
theorem AF.callUO {mi' : MI} {C owner : String} {x : MethodName} {idx n ci d' mc' ms' b : Nat} {As rest : List Value} {fs : List Value} {R' : AR → AH → Prop} (hd : decode mi.2.1 pc = .ok (.invokevirtual idx, 3)) (hk : KO2 mi.1.cls idx C owner x mi' n) (hM : AC G mi' d' mc' ms' (.ref b :: As) F R') (hF : F.2 b = some (.inr (ci, fs))) (hci : (cls[ci]?).map (fun q => q.1) = some C) (hn : As.length = n) (hst : st = As.reverse ++ .ref b :: rest) (hw : (rest.map fun v => v.category).sum ≤ 8) (hdd : d' + 1 ≤ d) (hx : mi.2.2.2.2 = [])
    (kx : ∀ E F', ¬ R' (.inr E) F') (k : ∀ v F', R' (.inl v) F' → AF G mi d bc bs R F' (pc + 3) ls (v.toList ++ rest)) : AF G mi d (bc + mc') (bs + ms') R F pc ls st := by
  intro p e Rm s m args below meth c mc ms H locs cells slots ls0 hC
  obtain ⟨hh, ⟨w1, w2, w3, w4, w5, w6⟩, ⟨w7, b0, m0, r0, w8⟩, hy, hpl, h40⟩ := hk
  have hG := hC.2.1.1
  have hW := hC.2.1.2.1
  obtain ⟨a1, a2, a3, a4⟩ := hC.rm hdd h40
  obtain ⟨b1, b2⟩ := acw_code mi' hh hG hW w6
  obtain ⟨r, h1, cell, q1, q2, q3, q4⟩ := hC.2.2.1.2.2.2 b _ hF
  have hr : r.1 = C := by rw [h1] at hci; exact Option.some.inj hci
  obtain ⟨-, hfc, -⟩ := (gK hG hW).1 ci _ h1
  have hdec : va_Decl s ⟨owner, x.name, x.desc⟩ := va_Decl.of (args := args) (gw hG hW w7 rfl) (gw hG hW w8 rfl)
  refine AF.behind hC rfl rfl (run_x (va_runU (C := C) (owner := owner) (x := x) (Ts := []) (y := mi'.1) (bytes := mi'.2.1) (maxL := mi'.2.2.1) (ret := mi'.2.2.2.1) (n := n) (As := As) (rest := rest) hC.fix (hM.met kx) ⟨⟨rfl, rfl, a1, a2, b1, b2⟩, gw hG hW w6 rfl, gw hG hW w5 rfl, hy, plen hpl, gw hG hW w1 rfl, gw hG hW w2 rfl, hdec, gw hG hW w3 rfl, gw hG hW w4 rfl⟩ ⟨acp_blind, ⟨cell, q1, by rw [q3]; rfl, by rw [q2, ← hr]; exact hfc⟩, acp_run hC⟩ rfl hn hC.2.2.2.2.1.1 hst (by simpa using hw) hd ⟨a3, a4⟩)) hx (fun E F' q => absurd q (kx E F')) k
theorem AF.null (hd : decode mi.2.1 pc = .ok (.aconst_null, 1)) (k : AF G mi d bc bs R F (pc + 1) ls (.null :: st)) : AF G mi d bc bs R F pc ls st := by
  intro p e Rm s m args below meth c mc ms H locs cells slots ls0 hC
  exact lv_null hC.1.1 hC.1.2.1 hd (k _ _ _ _ _ _ _ _ _ _ _ _ _ _ _ _ hC)
theorem AF.ifnonnull {x : Nat} {off : Int} (tgt : Nat) (hd : decode mi.2.1 pc = .ok (.ifnonnull off, 3)) (ht : (pc : Int) + off = (tgt : Int)) (k : AF G mi d bc bs R F tgt ls st) : AF G mi d bc bs R F pc ls (.ref x :: st) := by
  intro p e Rm s m args below meth c mc ms H locs cells slots ls0 hC
  exact lv_ifnonnull hC.1.1 hC.1.2.1 hd ht (k _ _ _ _ _ _ _ _ _ _ _ _ _ _ _ _ hC)
theorem AF.castB {idx a n : Nat} {f : Nat → Int32} (hd : decode mi.2.1 pc = .ok (.checkcast idx, 3)) (hk : Cond.classLink mi.1.cls idx "[B" ∈ lw_tbl) (hF : F.2 a = some (.inl (gC G 5, n, .inl f))) (k : AF G mi d bc bs R F (pc + 3) ls (.ref a :: st)) : AF G mi d bc bs R F pc ls (.ref a :: st) := by
  intro p e Rm s m args below meth c mc ms H locs cells slots ls0 hC
  have hG := hC.2.1.1
  have hW := hC.2.1.2.1
  have hca : s.vm.findClass ("[" ++ (.byte : FieldType).toString) = some (gC G 5) := ((gK hG hW).2 5 _ rfl).2
  exact va_castA hC.1.1 hC.1.2.1 hC.1.2.2.2.2.2.2.1 (gw hG hW hk rfl) (hC.2.2.1.P1 hF) 0 rfl hca hd (k _ _ _ _ _ _ _ _ _ _ _ _ _ _ _ _ hC)
/-- a row of bytes is cloned -/
theorem AF.cloneB {idx a n : Nat} {f : Nat → Int32} (hfit : ∀ i, vp_nar .byte (f i) = f i) (hd : decode mi.2.1 pc = .ok (.invokevirtual idx, 3)) (hk : Cond.methodLink mi.1.cls idx ⟨"[B", "clone", "()Ljava/lang/Object;"⟩ ∈ lw_tbl ∧ Cond.sameMethod "[B" "java/lang/Object" "clone" "()Ljava/lang/Object;" ∈ lw_tbl ∧ Cond.native ⟨"java/lang/Object", "clone", "()Ljava/lang/Object;"⟩ ∈ lw_tbl ∧ Cond.instanceMethod ⟨"java/lang/Object", "clone", "()Ljava/lang/Object;"⟩ ∈ lw_tbl ∧ Cond.selects "[B" ⟨"[B", "clone", "()Ljava/lang/Object;"⟩ ⟨"java/lang/Object", "clone", "()Ljava/lang/Object;"⟩ ∈ lw_tbl ∧ Cond.castable "[B" "java/lang/Cloneable" ∈ lw_tbl)
    (hF : F.2 a = some (.inl (gC G 5, n, .inl f))) (hw : (st.map fun v => v.category).sum ≤ 8) (hdd : 1 ≤ d) (kk : ∀ F' : AH, F'.1 = F.1 + 1 → F'.2 F.1 = some (.inl (gC G 5, n, .inl f)) → (∀ q, ¬ q = F.1 → F'.2 q = F.2 q) → AF G mi d bc bs R F' (pc + 3) ls (.ref F.1 :: st)) : AF G mi d (bc + 1) (bs + n) R F pc ls (.ref a :: st) := by
  intro p e Rm s m args below meth c mc ms H locs cells slots ls0 hC
  obtain ⟨w1, w2, w3, w4, w5, w6⟩ := hk
  have hG := hC.2.1.1
  have hW := hC.2.1.2.1
  have hK := gK hG hW
  have hC' := hC.pay rfl rfl
  have b := hC'.2.2.2.2.2
  have hs : H.size = F.1 := hC.2.2.1.1
  obtain ⟨a1, a2, a3, a4, a5, a6⟩ := hC.2.2.2.2.2
  have hsz : (vp_cell (gC G 5) (n, .inl f)).slots.size = n := arrV_size _ _ _
  have hvm0 : (vp_cell (gC G 5) (n, .inl f)).vm = .none := rfl
  have hcl0 : (vp_cell (gC G 5) (n, .inl f)).cls = gC G 5 := rfl
  have hcellE : ({ cls := (vp_cell (gC G 5) (n, .inl f)).cls, slots := (vp_cell (gC G 5) (n, .inl f)).slots } : Cell) = vp_cell (gC G 5) (n, .inl f) := rfl
  have hnm : s.vm.findClass "[B" = some (gC G 5) := (hK.2 5 _ rfl).2
  obtain ⟨c0, t0', f1, f2, f3⟩ := Cond.castable_spec (args := args) (gwT hG hW w6 rfl rfl)
  cases hnm.symm.trans f1
  intro T hT X
  have hcellT : T.heap[a]? = some (vp_cell (gC G 5) (n, .inl f)) := by rw [hT]; exact hC.2.2.1.2.2.2 a _ hF
  obtain ⟨-, kA, hkA, comp, hkind⟩ := State.isArrayOf_alike X.warmed.alike ((hK.2 5 _ rfl).1 0 (fun _ => .null))
  obtain ⟨-, kS, hkS, compS, hkindS⟩ := (hK.2 5 _ rfl).1 0 (fun _ => .null)
  obtain ⟨vm', X', st9⟩ := X.cloneArray hC.1.1 hC.1.2.2.2.2.2.2.1 (gw hG hW w1 rfl) (gw hG hW w2 rfl) (gw hG hW w3 rfl) (gw hG hW w4 rfl) (gw hG hW w5 rfl) (a := a) (cell := vp_cell (gC G 5) (n, .inl f)) hcellT (fun k h => by rw [hvm0] at h; cases h) (by rw [hvm0]; exact fun h => by cases h) (by rw [hcl0]; exact hnm) f2 (by rw [hcl0]; exact f3)
    (fun i v hv => by
      rw [hcl0]
      have hk' : T.vm.classes[gC G 5]? = some kA := hkA
      have hvf : fits .byte v = true := by
        by_cases hi : i < n
        · have hv : (arrV (gC G 5) n (fun j => .int (f j))).slots[i]? = some v := hv
          rw [arrV_read _ _ hi] at hv
          cases hv
          rw [← hfit i]
          exact pk_fb _
        · rw [Array.getElem?_eq_none (by rw [hsz]; omega)] at hv
          cases hv
      simpa [State.fitsSlot, State.slotType?, hk', hkind] using hvf)
    (g := F0 m pc ls0 (.ref a :: st)) rfl (hC.2.2.2.2.1.1.trans hC.1.2.2.2.1.symm) rfl (by rw [hC.1.2.1]; exact hd) (by omega) (by show 2 * 0 + _ + 14 ≤ _; omega) (by omega) (by rw [hsz]; omega) (hloader := by rw [hcl0]; exact Vm.clonesLoader_of_array hkS hkindS)
  rw [hcellE, hsz] at X'
  obtain ⟨t, c1, c2⟩ := kk (F.1 + 1, pu F.2 F.1 (.inl (gC G 5, n, .inl f))) rfl pu_s (fun q h => pu_n h) _ _ _ _ _ _ _ _ _ _ _ _ _ _ _ _ (hC'.heap (H' := H.push (vp_cell (gC G 5) (n, .inl f))) (hC.2.2.1.new (c := .inl (gC G 5, n, .inl f)) (show (Array.push H _)[F.1]? = some (vp_cell _ _) by rw [← hs, Array.getElem?_push_size]) (by rw [Array.size_push, hs]) (fun q hq => by rw [Array.getElem?_push, if_neg (by omega)])) (by rw [Array.size_push]; omega) hC.2.2.2.1)
    ((T.setVm vm').pushCell (vp_cell (gC G 5) (n, .inl f))) (by rw [← hT]; rfl) X'
  refine ⟨t, st9 t ?_, c2⟩
  rw [hcellE, hT, hs]
  exact c1
end
def str (tx : String) : List Int32 := tx.toList.map (fun ch => nI ch.toNat)
theorem str_len {tx : String} : (str tx).length = tx.toList.length := List.length_map ..
theorem str_at {tx : String} {j : Nat} (hj : j < tx.toList.length) : (str tx).getD j 0 = sby tx j := by
  unfold str sby
  rw [List.getD_eq_getElem?_getD, List.getElem?_map, List.getD_eq_getElem?_getD, List.getElem?_eq_getElem hj]
  rfl
/-- a text: a constant, or made in this run -/
def STX (G : GA) (F : AH) (a v : Nat) (T : List Int32) : Prop := (∃ tx, STR G a v tx ∧ T = str tx) ∨ ∃ f h z, F.2 a = some (.inr (8, [.ref v, .int 0, h, z])) ∧ F.2 v = some (.inl (gC G 5, T.length, .inl f)) ∧ (∀ i, vp_nar .byte (f i) = f i) ∧ ∀ i, i < T.length → f i = T.getD i 0
theorem STX.kept {G : GA} {F F' : AH} {a v : Nat} {T : List Int32} (h : STX G F a v T) (h1 : F'.2 a = F.2 a) (h2 : F'.2 v = F.2 v) : STX G F' a v T := by
  rcases h with h | ⟨f, x, z, q1, q2, q3⟩
  · exact Or.inl h
  · exact Or.inr ⟨f, x, z, h1.trans q1, h2.trans q2, q3⟩
section
variable {G : GA} {mi : MI} {d bc bs : Nat} {R : AR → AH → Prop} {F : AH} {pc a v idx : Nat} {ls : List (Option Value)} {st : List Value} {T : List Int32}
theorem AF.sgv (hS : STX G F a v T) (hd : decode mi.2.1 pc = .ok (.getfield idx, 3)) (hl : Cond.fieldLink mi.1.cls idx "java/lang/String" "value" "[B" ∈ lw_tbl ∨ ∃ host, Cond.fieldLinkNest mi.1.cls idx "java/lang/String" "value" "[B" host ∈ lw_tbl) (hf : FL mi.1.cls idx 8 0) (k : AF G mi d bc bs R F (pc + 3) ls (.ref v :: st)) : AF G mi d bc bs R F pc ls (.ref a :: st) := by
  rcases hS with ⟨tx, hS, -⟩ | ⟨f, x, z, q1, -⟩
  · exact AF.getfieldC hd hl hS.2.2.1 k
  · exact AF.getfield hd hf q1 rfl k
theorem AF.sgc (hS : STX G F a v T) (hd : decode mi.2.1 pc = .ok (.getfield idx, 3)) (hl : Cond.fieldLink mi.1.cls idx "java/lang/String" "coder" "B" ∈ lw_tbl ∨ ∃ host, Cond.fieldLinkNest mi.1.cls idx "java/lang/String" "coder" "B" host ∈ lw_tbl) (hf : FL mi.1.cls idx 8 1) (k : AF G mi d bc bs R F (pc + 3) ls (.int 0 :: st)) : AF G mi d bc bs R F pc ls (.ref a :: st) := by
  rcases hS with ⟨tx, hS, -⟩ | ⟨f, x, z, q1, -⟩
  · exact AF.getfieldC hd hl hS.2.1 k
  · exact AF.getfield hd hf q1 rfl k
theorem AF.slen (hS : STX G F a v T) (hd : decode mi.2.1 pc = .ok (.arraylength, 1)) (k : AF G mi d bc bs R F (pc + 1) ls (.int (nI T.length) :: st)) : AF G mi d bc bs R F pc ls (.ref v :: st) := by
  rcases hS with ⟨tx, hS, rfl⟩ | ⟨f, x, z, -, q2, -⟩
  · rw [str_len] at k
    exact AF.arraylengthT (v := nI tx.toList.length) hd hS.2.2.2 rfl k
  · exact AF.arraylength (t0 := 5) (nI T.length) hd q2 rfl rfl k
theorem AF.sbal {j : Nat} (hS : STX G F a v T) (hj : j < T.length) (hl : T.length < 2 ^ 20) (hd : decode mi.2.1 pc = .ok (.baload, 1)) (k : AF G mi d bc bs R F (pc + 1) ls (.int (T.getD j 0) :: st)) : AF G mi d bc bs R F pc ls (.int (nI j) :: .ref v :: st) := by
  rcases hS with ⟨tx, hS, rfl⟩ | ⟨f, x, z, -, q2, -, q4⟩
  · rw [str_len] at hj hl
    exact AF.baloadT j hd hS.2.2.2 rfl hj (by omega) (congrArg Value.int (str_at hj).symm) k
  · refine AF.baload j hd q2 rfl hj (by omega) ?_
    rw [q4 j hj]
    exact k
theorem AF.scall {mi' : MI} {n d' : Nat} {As rest : List Value} {w : Option Value} (hS : STX G F a v T) (hd : decode mi.2.1 pc = .ok (.invokevirtual idx, 3)) (hk : KV mi.1.cls idx mi' n) (hm : mi'.1.cls = "java/lang/String") (hM : AC G mi' d' 0 0 (.ref a :: As) F (AV w F)) (hn : As.length = n) (hst : st = As.reverse ++ .ref a :: rest) (hw : (rest.map fun v => v.category).sum ≤ 8) (hdd : d' + 1 ≤ d) (hx : mi.2.2.2.2 = [])
    (k : AF G mi d bc bs R F (pc + 3) ls (w.toList ++ rest)) : AF G mi d bc bs R F pc ls st := by
  rcases hS with ⟨tx, hS, -⟩ | ⟨f, x, z, q1, -⟩
  · exact AF.callVC (mc' := 0) (ms' := 0) hd hk hM (by rw [hm]; exact hS.1) hn hst hw hdd hx (fun E F' h => absurd h AV.x) (fun v' F' h => by obtain ⟨h1, rfl⟩ := h; cases h1; exact k)
  · exact AF.callV (mc' := 0) (ms' := 0) hd hk hM q1 (by rw [hm]; rfl) hn hst hw hdd hx (fun E F' h => absurd h AV.x) (fun v' F' h => by obtain ⟨h1, rfl⟩ := h; cases h1; exact k)
/-- .. one that writes -/
theorem AF.scallw {mi' : MI} {n d' : Nat} {As rest : List Value} {R' : AR → AH → Prop} (hS : STX G F a v T) (hd : decode mi.2.1 pc = .ok (.invokevirtual idx, 3)) (hk : KV mi.1.cls idx mi' n) (hm : mi'.1.cls = "java/lang/String") (hM : AC G mi' d' 0 0 (.ref a :: As) F R') (hn : As.length = n) (hst : st = As.reverse ++ .ref a :: rest) (hw : (rest.map fun v => v.category).sum ≤ 8) (hdd : d' + 1 ≤ d) (hx : mi.2.2.2.2 = [])
    (kx : ∀ E F', ¬ R' (.inr E) F') (k : ∀ v F', R' (.inl v) F' → AF G mi d bc bs R F' (pc + 3) ls (v.toList ++ rest)) : AF G mi d bc bs R F pc ls st := by
  rcases hS with ⟨tx, hS, -⟩ | ⟨f, x, z, q1, -⟩
  · exact AF.callVC (mc' := 0) (ms' := 0) hd hk hM (by rw [hm]; exact hS.1) hn hst hw hdd hx (fun E F' h => absurd h (kx E F')) k
  · exact AF.callV (mc' := 0) (ms' := 0) hd hk hM q1 (by rw [hm]; rfl) hn hst hw hdd hx (fun E F' h => absurd h (kx E F')) k
theorem AS.nb {T : List Int32} (h : AS T) (i : Nat) : vp_nar .byte (T.getD i 0) = T.getD i 0 := by
  by_cases q : i < T.length
  · obtain ⟨k, hk, e⟩ := h i q
    rw [e]
    exact nar_b k hk
  · rw [List.getD_eq_getElem?_getD, List.getElem?_eq_none (by omega)]
    exact nar_b 0 (by decide)
/-- the text's bytes are copied into a row -/
theorem AF.scopy {ad n1 dp : Nat} {g : Nat → Int32} {isp idp i9 : Int32} (hS : STX G F a v T) (hT : AS T) (hd : decode mi.2.1 pc = .ok (.invokestatic idx, 3)) (hk : KA mi.1.cls idx) (had : F.2 ad = some (.inl (gC G 5, n1, .inl g))) (ha : gN G ≤ ad) (e1 : isp = nI 0) (e2 : idp = nI dp) (e3 : i9 = nI T.length) (h5 : dp + T.length ≤ n1) (hb1 : n1 < 2 ^ 20) (hw : (st.map fun v => v.category).sum ≤ 8) (hdd : 1 ≤ d)
    (kk : ∀ F' : AH, F'.1 = F.1 → (∃ f, F'.2 ad = some (.inl (gC G 5, n1, .inl (va_cpy f g 0 dp T.length))) ∧ (∀ i, vp_nar .byte (f i) = f i) ∧ ∀ i, i < T.length → f i = T.getD i 0) → (∀ q, ¬ q = ad → F'.2 q = F.2 q) → AF G mi d bc bs R F' (pc + 3) ls st) : AF G mi d bc bs R F pc ls (.int i9 :: .int idp :: .ref ad :: .int isp :: .ref v :: st) := by
  rcases hS with ⟨tx, hS, rfl⟩ | ⟨f, x, z, -, q2, q3, q4⟩
  · intro p e Rm s m args below meth c mc ms H locs cells slots ls0 hC
    subst e1 e2 e3
    obtain ⟨w1, w2, w3, w4⟩ := hk
    have hG := hC.2.1.1
    have hW := hC.2.1.2.1
    have hK := gK hG hW
    obtain ⟨b1, b2, b3, b4, b5, b6⟩ := hC.2.2.2.2.2
    obtain ⟨cell, t1, t2, t3, t4, t5, t6, t7⟩ := hS.2.2.2
    have hlen : (str tx).length = tx.toList.length := str_len
    have hv : v < gN G := Nat.not_le.mp t7
    have hc0 : H[v]? = some cell := (hC.2.2.1.2.2.1 v hv).trans t1
    have hc1 : H[ad]? = some (vp_cell (gC G 5) (n1, .inl g)) := hC.2.2.1.2.2.2 ad _ had
    obtain ⟨g0, k0, hk0, cm0, hkk0⟩ := State.isArrayOf_alike hW.alike t2
    obtain ⟨-, k1, hk1, cm1, hkk1⟩ := (hK.2 5 _ rfl).1 n1 (fun j => .int (g j))
    have d1 := nI_clamp (n := 0) (by omega)
    have d2 := nI_clamp (n := dp) (by omega)
    have d3 := nI_clamp (n := (str tx).length) (by omega)
    have u1 := nI_toInt (n := 0) (by omega)
    have u2 := nI_toInt (n := dp) (by omega)
    have u3 := nI_toInt (n := (str tx).length) (by omega)
    have hnf : nativeFrameWords "java/lang/System" "arraycopy" 5 ≤ 7 := by decide +kernel
    have hsl : ∀ j, j < (str tx).length → cell.slots[j]? = some (.int ((str tx).getD j 0)) := fun j hj => by
      rw [hlen] at hj
      rw [str_at hj]
      exact t6 j hj
    intro T hT9 X
    obtain ⟨vm', X', step⟩ := X.arraycopy hC.1.1 hC.1.2.2.2.2.2.2.1 (gw hG hW w1 rfl) (gw hG hW w2 rfl) (gw hG hW w3 rfl) (gw hG hW w4 rfl) (src := v) (dst := ad) (cs := cell) (cd := vp_cell (gC G 5) (n1, .inl g)) (srcPos := nI 0) (destPos := nI dp) (n := nI (str tx).length) (by rw [hT9]; exact hc0) (by rw [hT9]; exact hc1)
      g0 (fun _ h => by cases h) t3 (fun h => by cases h) hk0 hk1 hkk0 hkk1 (by simp [refKind]) (nI_pos (by omega)) (nI_pos (by omega)) (nI_pos (by omega))
      (by rw [u1, u3]; omega)
      (by rw [u2, u3]; show ¬ _ > ((arrV (gC G 5) n1 (fun j => .int (g j))).slots.size : Int); rw [arrV_size]; omega)
      (fun vm₁ _ i hi => by
        rw [d3] at hi
        have e : cell.slots.getD ((nI 0).toNatClampNeg + i) .null = .int ((str tx).getD i 0) := by
          rw [d1, Nat.zero_add, Array.getD_eq_getD_getElem?, hsl i hi]
          rfl
        refine ⟨?_, ?_⟩
        · rw [e]
          show fits .byte (.int ((str tx).getD i 0)) = true
          rw [← hT.nb i]
          exact pk_fb _
        · rw [e]
          exact trivial)
      (g := F0 m pc ls0 (.int (nI (str tx).length) :: .int (nI dp) :: .ref ad :: .int (nI 0) :: .ref v :: st)) rfl (hC.2.2.2.2.1.1.trans hC.1.2.2.2.1.symm) (rest := st) rfl (by rw [hC.1.2.1]; exact hd) (by omega) (by show 2 * 0 + _ + (nativeFrameWords _ _ 5 + 11) ≤ _; omega)
    have ec : copied cell (vp_cell (gC G 5) (n1, .inl g)) (nI 0) (nI dp) (nI (str tx).length) = vp_cell (gC G 5) (n1, .inl (va_cpy (fun i => (str tx).getD i 0) g 0 dp (str tx).length)) := by
      have h9 := va_copiedX (fun z => .int z) cell (gC G 5) (n0 := (str tx).length) (n1 := n1) (sp := (nI 0).toNatClampNeg) (dp := (nI dp).toNatClampNeg) (n := (nI (str tx).length).toNatClampNeg) (fun i => (str tx).getD i 0) g hsl (by rw [d1, d3]; omega)
      have h8 : copied cell (vp_cell (gC G 5) (n1, .inl g)) (nI 0) (nI dp) (nI (str tx).length) = vp_cell (gC G 5) (n1, .inl (va_cpy (fun i => (str tx).getD i 0) g (nI 0).toNatClampNeg (nI dp).toNatClampNeg (nI (str tx).length).toNatClampNeg)) := h9
      rw [d1, d2, d3] at h8
      exact h8
    rw [ec] at X' step
    have hl : ad < H.size := (Array.getElem?_eq_some_iff.mp hc1).1
    have hheap : ((T.setVm vm').setCell ad (vp_cell (gC G 5) (n1, .inl (va_cpy (fun i => (str tx).getD i 0) g 0 dp (str tx).length)))).heap = H.setIfInBounds ad (vp_cell (gC G 5) (n1, .inl (va_cpy (fun i => (str tx).getD i 0) g 0 dp (str tx).length))) := by rw [← hT9]; rfl
    have oq : ∀ q : Nat, q ≠ ad → (H.setIfInBounds ad (vp_cell (gC G 5) (n1, .inl (va_cpy (fun i => (str tx).getD i 0) g 0 dp (str tx).length))))[q]? = H[q]? := fun q hq => by simp [Array.getElem?_setIfInBounds, Ne.symm hq]
    obtain ⟨t, c1, c2⟩ := kk (F.1, pu F.2 ad (.inl (gC G 5, n1, .inl (va_cpy (fun i => (str tx).getD i 0) g 0 dp (str tx).length)))) rfl ⟨fun i => (str tx).getD i 0, pu_s, hT.nb, fun _ _ => rfl⟩ (fun q h => pu_n h) _ _ _ _ _ _ _ _ _ _ _ _ _ _ _ _ (hC.heap (hC.2.2.1.put (c := .inl (gC G 5, n1, .inl (va_cpy (fun i => (str tx).getD i 0) g 0 dp (str tx).length))) ha (show (H.setIfInBounds ad _)[ad]? = some _ by simp [Array.getElem?_setIfInBounds, hl]) (by simp) oq) (by simp) (fun z hz => by
      rcases List.mem_append.mp hz with h | h
      · exact hC.2.2.2.1 z h
      · obtain ⟨z9, -, hz9⟩ := List.mem_map.mp h
        rw [← hz9]
        exact ha)) _ hheap X'
    exact ⟨t, step t c1, c2⟩
  · exact AF.copyB q3 hd hk q2 had ha e1 e2 e3 (by omega) h5 (by omega) (by omega) hw hdd (fun F' h1 h2 h3 => kk F' h1 ⟨f, h2, q3, q4⟩ h3)
end
section
variable {G : GA} {F : AH} {a v : Nat} {T : List Int32}
set_option maxRecDepth 100000 in
theorem J0_coder_s (h : STX G F a v T) : AC G mJ0_coder_7d493 0 0 0 [.ref a] F (AV (some (.int 0)) F) := by
  refine AC.of [some (.ref a)] rfl (by decide) (Nat.le_of_ble_eq_true rfl) rfl (AF.ok fun hG => ?_)
  refine AF.getstatic dJ0_coder_7d493_0 jf_J0_38 hG.2.2.2.2.2.2.1.2.2.2.2.2.2.1 ?_
  refine AF.if_eq 13 dJ0_coder_7d493_3 (by decide) (fun c1 => ?_) (fun c1 => ?_)
  · exact absurd c1 (by decide)
  · refine AF.aload_n dJ0_coder_7d493_6 rfl ?_
    refine AF.sgc h dJ0_coder_7d493_7 jf_J0_15 fl_J0_15 ?_
    refine AF.goto 14 dJ0_coder_7d493_10 (by decide) ?_
    exact AF.zreturn dJ0_coder_7d493_14 rfl rfl ⟨rfl, rfl⟩
set_option maxRecDepth 100000 in
theorem J0_isLatin1_s (h : STX G F a v T) : AC G mJ0_isLatin1_aae02 0 0 0 [.ref a] F (AV (some (.int 1)) F) := by
  refine AC.of [some (.ref a)] rfl (by decide) (Nat.le_of_ble_eq_true rfl) rfl (AF.ok fun hG => ?_)
  refine AF.getstatic dJ0_isLatin1_aae02_0 jf_J0_38 hG.2.2.2.2.2.2.1.2.2.2.2.2.2.1 ?_
  refine AF.if_eq 17 dJ0_isLatin1_aae02_3 (by decide) (fun c1 => ?_) (fun c1 => ?_)
  · exact absurd c1 (by decide)
  · refine AF.aload_n dJ0_isLatin1_aae02_6 rfl ?_
    refine AF.sgc h dJ0_isLatin1_aae02_7 jf_J0_15 fl_J0_15 ?_
    refine AF.if_ne 17 dJ0_isLatin1_aae02_10 (by decide) (fun c2 => ?_) (fun c2 => ?_)
    · exact absurd rfl c2
    · refine AF.iconst (1) dJ0_isLatin1_aae02_13 (by decide) ?_
      refine AF.goto 18 dJ0_isLatin1_aae02_14 (by decide) ?_
      exact AF.zreturn dJ0_isLatin1_aae02_18 rfl rfl ⟨rfl, rfl⟩
set_option maxRecDepth 100000 in
theorem J0_length_s (h : STX G F a v T) : AC G mJ0_length_8abf5 1 0 0 [.ref a] F (AV (some (.int (nI T.length))) F) := by
  refine AC.of [some (.ref a)] rfl (by decide) (Nat.le_of_ble_eq_true rfl) rfl ?_
  refine AF.aload_n dJ0_length_8abf5_0 rfl ?_
  refine AF.sgv h dJ0_length_8abf5_1 jf_J0_9 fl_J0_9 ?_
  refine AF.slen h dJ0_length_8abf5_4 ?_
  refine AF.aload_n dJ0_length_8abf5_5 rfl ?_
  refine AF.scall h dJ0_length_8abf5_6 jv_J0_335 rfl (J0_coder_s h) rfl rfl (Nat.le_of_ble_eq_true rfl) (by decide) rfl ?_
  refine AF.ishr0 dJ0_length_8abf5_9 ?_
  exact AF.ireturn dJ0_length_8abf5_10 rfl ⟨rfl, rfl⟩
set_option maxRecDepth 100000 in
theorem J1_charAt_s (h : STX G F a v T) {j k : Nat} (hj : j < T.length) (hl : T.length < 2 ^ 20) (hk : k < 128) (hT : T.getD j 0 = nI k) : AC G mJ1_charAt_3b067 2 0 0 [.ref v, .int (nI j)] F (AV (some (.int (nI k))) F) := by
  have hI := J0_checkIndex_ok (G := G) (F := F) hj (by omega)
  refine AC.of [some (.ref v), some (.int (nI j))] rfl (by decide) (Nat.le_of_ble_eq_true rfl) rfl ?_
  refine AF.iload_n dJ1_charAt_3b067_0 rfl ?_
  refine AF.aload_n dJ1_charAt_3b067_1 rfl ?_
  refine AF.slen h dJ1_charAt_3b067_2 ?_
  refine AF.sw dJ1_charAt_3b067_3 jv_J1_9 hI rfl rfl (Nat.le_of_ble_eq_true rfl) (by decide) rfl (fun E F9 q => nomatch q.1) (fun w F9 q => ?_)
  obtain ⟨q, rfl⟩ := q
  cases q
  refine AF.aload_n dJ1_charAt_3b067_6 rfl ?_
  refine AF.iload_n dJ1_charAt_3b067_7 rfl ?_
  refine AF.sbal h hj hl dJ1_charAt_3b067_8 ?_
  refine AF.sipush (255) dJ1_charAt_3b067_9 (by decide) ?_
  refine AF.iand dJ1_charAt_3b067_12 ?_
  refine AF.i2c dJ1_charAt_3b067_13 ?_
  refine AF.zreturn dJ1_charAt_3b067_14 rfl nar_char ⟨?_, rfl⟩
  rw [hT, show (255 : Int32) = 255 from rfl, and255 _ hk]
set_option maxRecDepth 100000 in
theorem J0_charAt_s (h : STX G F a v T) {j k : Nat} (hj : j < T.length) (hl : T.length < 2 ^ 20) (hk : k < 128) (hT : T.getD j 0 = nI k) : AC G mJ0_charAt_5068e 3 0 0 [.ref a, .int (nI j)] F (AV (some (.int (nI k))) F) := by
  refine AC.of [some (.ref a), some (.int (nI j))] rfl (by decide) (Nat.le_of_ble_eq_true rfl) rfl ?_
  refine AF.aload_n dJ0_charAt_5068e_0 rfl ?_
  refine AF.scall h dJ0_charAt_5068e_1 jv_J0_492 rfl (J0_isLatin1_s h) rfl rfl (Nat.le_of_ble_eq_true rfl) (by decide) rfl ?_
  refine AF.if_eq 16 dJ0_charAt_5068e_4 (by decide) (fun c1 => ?_) (fun c1 => ?_)
  · exact absurd c1 (by decide)
  · refine AF.aload_n dJ0_charAt_5068e_7 rfl ?_
    refine AF.sgv h dJ0_charAt_5068e_8 jf_J0_9 fl_J0_9 ?_
    refine AF.iload_n dJ0_charAt_5068e_11 rfl ?_
    refine AF.s1 dJ0_charAt_5068e_12 jv_J0_495 (J1_charAt_s h hj hl hk hT) rfl rfl (Nat.le_of_ble_eq_true rfl) (by decide) rfl ?_
    refine AF.zreturn dJ0_charAt_5068e_15 rfl ?_ ⟨rfl, rfl⟩
    have h9 := nar_char (z := nI k)
    rw [(nar_c _ hk).1] at h9
    exact h9
end

