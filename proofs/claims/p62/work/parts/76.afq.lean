/-! The layer: rows of bytes. -/
section AFQ
variable {G : GA} {mi : MI} {d bc bs : Nat} {R : AR → AH → Prop} {F : AH} {pc : Nat} {ls : List (Option Value)} {st : List Value}
theorem AF.copyB {idx a0 a n0 n1 sp dp n : Nat} {f g : Nat → Int32} {isp idp i9 : Int32} (hfit : ∀ i, vp_nar .byte (f i) = f i) (hd : decode mi.2.1 pc = .ok (.invokestatic idx, 3)) (hk : KA mi.1.cls idx) (ha0 : F.2 a0 = some (.inl (gC G 5, n0, .inl f))) (ha1 : F.2 a = some (.inl (gC G 5, n1, .inl g))) (ha : gN G ≤ a) (e1 : isp = nI sp) (e2 : idp = nI dp) (e3 : i9 = nI n) (h4 : sp + n ≤ n0) (h5 : dp + n ≤ n1) (hb : n0 < 2 ^ 31) (hb1 : n1 < 2 ^ 31) (hw : (st.map fun v => v.category).sum ≤ 8) (hdd : 1 ≤ d)
    (kk : ∀ F' : AH, F'.1 = F.1 → F'.2 a = some (.inl (gC G 5, n1, .inl (va_cpy f g sp dp n))) → (∀ q, ¬ q = a → F'.2 q = F.2 q) → AF G mi d bc bs R F' (pc + 3) ls st) : AF G mi d bc bs R F pc ls (.int i9 :: .int idp :: .ref a :: .int isp :: .ref a0 :: st) := by
  intro p e Rm s m args below meth c mc ms H locs cells slots ls0 hC
  subst e1 e2 e3
  obtain ⟨w1, w2, w3, w4⟩ := hk
  have hG := hC.2.1.1
  have hW := hC.2.1.2.1
  have hK := gK hG hW
  obtain ⟨a1, a2, a3, a4, a5, a6⟩ := hC.2.2.2.2.2
  have c1 := nI_clamp (n := sp) (by omega)
  have c2 := nI_clamp (n := dp) (by omega)
  have c3 := nI_clamp (n := n) (by omega)
  have t1 := nI_toInt (n := sp) (by omega)
  have t2 := nI_toInt (n := dp) (by omega)
  have t3 := nI_toInt (n := n) (by omega)
  have hnf : nativeFrameWords "java/lang/System" "arraycopy" 5 ≤ 7 := by decide +kernel
  intro T hT X
  have hc0 : H[a0]? = some (vp_cell (gC G 5) (n0, .inl f)) := hC.2.2.1.2.2.2 a0 _ ha0
  have hc1 : H[a]? = some (vp_cell (gC G 5) (n1, .inl g)) := hC.2.2.1.2.2.2 a _ ha1
  obtain ⟨-, k0, hk0, cm0, hkk0⟩ := (hK.2 5 _ rfl).1 n0 (fun j => .int (f j))
  obtain ⟨-, k1, hk1, cm1, hkk1⟩ := (hK.2 5 _ rfl).1 n1 (fun j => .int (g j))
  obtain ⟨vm', X', step⟩ := X.arraycopy hC.1.1 hC.1.2.2.2.2.2.2.1 (gw hG hW w1 rfl) (gw hG hW w2 rfl) (gw hG hW w3 rfl) (gw hG hW w4 rfl) (src := a0) (dst := a) (cs := vp_cell (gC G 5) (n0, .inl f)) (cd := vp_cell (gC G 5) (n1, .inl g)) (srcPos := nI sp) (destPos := nI dp) (n := nI n) (by rw [hT]; exact hc0) (by rw [hT]; exact hc1)
    (fun _ h => by cases h) (fun _ h => by cases h) (fun h => by cases h) (fun h => by cases h) hk0 hk1 hkk0 hkk1 (by simp [refKind]) (nI_pos (by omega)) (nI_pos (by omega)) (nI_pos (by omega))
    (by rw [t1, t3]; show ¬ _ > ((arrV (gC G 5) n0 (fun j => .int (f j))).slots.size : Int); rw [arrV_size]; omega)
    (by rw [t2, t3]; show ¬ _ > ((arrV (gC G 5) n1 (fun j => .int (g j))).slots.size : Int); rw [arrV_size]; omega)
    (fun vm₁ _ i hi => by
      rw [c3] at hi
      have e : (vp_cell (gC G 5) (n0, .inl f)).slots.getD ((nI sp).toNatClampNeg + i) .null = .int (f (sp + i)) := by
        rw [c1]
        show (arrV (gC G 5) n0 (fun j => .int (f j))).slots.getD _ _ = _
        rw [Array.getD_eq_getD_getElem?, arrV_read _ _ (by omega)]
        rfl
      refine ⟨?_, ?_⟩
      · rw [e]
        show fits .byte (.int (f (sp + i))) = true
        rw [← hfit (sp + i)]
        exact pk_fb _
      · rw [e]
        exact trivial)
    (g := F0 m pc ls0 (.int (nI n) :: .int (nI dp) :: .ref a :: .int (nI sp) :: .ref a0 :: st)) rfl (hC.2.2.2.2.1.1.trans hC.1.2.2.2.1.symm) (rest := st) rfl (by rw [hC.1.2.1]; exact hd) (by omega) (by show 2 * 0 + _ + (nativeFrameWords _ _ 5 + 11) ≤ _; omega)
  have ec : copied (vp_cell (gC G 5) (n0, .inl f)) (vp_cell (gC G 5) (n1, .inl g)) (nI sp) (nI dp) (nI n) = vp_cell (gC G 5) (n1, .inl (va_cpy f g sp dp n)) := by
    have h9 := va_copied (fun z => .int z) (gC G 5) (gC G 5) (n0 := n0) (n1 := n1) (sp := (nI sp).toNatClampNeg) (dp := (nI dp).toNatClampNeg) (n := (nI n).toNatClampNeg) f g (by rw [c1, c3]; exact h4)
    have h8 : copied (vp_cell (gC G 5) (n0, .inl f)) (vp_cell (gC G 5) (n1, .inl g)) (nI sp) (nI dp) (nI n) = vp_cell (gC G 5) (n1, .inl (va_cpy f g (nI sp).toNatClampNeg (nI dp).toNatClampNeg (nI n).toNatClampNeg)) := h9
    rw [c1, c2, c3] at h8
    exact h8
  rw [ec] at X' step
  have hl : a < H.size := (Array.getElem?_eq_some_iff.mp hc1).1
  have hheap : ((T.setVm vm').setCell a (vp_cell (gC G 5) (n1, .inl (va_cpy f g sp dp n)))).heap = H.setIfInBounds a (vp_cell (gC G 5) (n1, .inl (va_cpy f g sp dp n))) := by rw [← hT]; rfl
  have oq : ∀ q : Nat, q ≠ a → (H.setIfInBounds a (vp_cell (gC G 5) (n1, .inl (va_cpy f g sp dp n))))[q]? = H[q]? := fun q hq => by simp [Array.getElem?_setIfInBounds, Ne.symm hq]
  obtain ⟨t, b1, b2⟩ := kk (F.1, pu F.2 a (.inl (gC G 5, n1, .inl (va_cpy f g sp dp n)))) rfl pu_s (fun q h => pu_n h) _ _ _ _ _ _ _ _ _ _ _ _ _ _ _ _ (hC.heap (hC.2.2.1.put (c := .inl (gC G 5, n1, .inl (va_cpy f g sp dp n))) ha (show (H.setIfInBounds a _)[a]? = some _ by simp [Array.getElem?_setIfInBounds, hl]) (by simp) oq) (by simp) (fun z hz => by
      rcases List.mem_append.mp hz with h | h
      · exact hC.2.2.2.1 z h
      · obtain ⟨z9, -, hz9⟩ := List.mem_map.mp h
        rw [← hz9]
        exact ha)) _ hheap X'
  exact ⟨t, step t b1, b2⟩
end AFQ
section AFQ2
variable {G : GA} {mi : MI} {d bc bs : Nat} {R : AR → AH → Prop} {F : AH} {pc : Nat} {ls : List (Option Value)} {st : List Value}
/-- a constant number -/
theorem AF.ldcI {v : Int32} {idx : Nat} (hd : decode mi.2.1 pc = .ok (.ldc idx, 2)) (hl : Cond.constant mi.1.cls idx v ∈ lw_tbl) (k : AF G mi d bc bs R F (pc + 2) ls (.int v :: st)) : AF G mi d bc bs R F pc ls st := by
  intro p e Rm s m args below meth c mc ms H locs cells slots ls0 hC
  exact lv_ldc hC.1.1 hC.1.2.1 hC.1.2.2.2.2.2.2.1 (gw hC.2.1.1 hC.2.1.2.1 hl rfl) hd (k _ _ _ _ _ _ _ _ _ _ _ _ _ _ _ _ hC)
end AFQ2

