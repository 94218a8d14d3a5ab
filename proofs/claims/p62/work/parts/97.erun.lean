/-! The law: a text is fed and executed. -/
theorem LKt.bl {G : GA} {c B bv : Nat} {Y : YS} {tx : List Int32} {F : AH} (h : LKt G c Y B tx bv F) : bv < F.1 := by
  obtain ⟨X, -, -, hC, -⟩ := h
  obtain ⟨hn, hf, -, -, -, -, -, -, -, -, ⟨cap, ml, a, -, -, -, -, h⟩, -⟩ := hC
  exact h
theorem AS_str {tx : String} (h : ∀ ch ∈ tx.toList, ch.toNat < 128) : AS (str tx) := fun i hi => by
  rw [str_len] at hi
  refine ⟨(tx.toList.getD i ' ').toNat, h _ ?_, str_at hi⟩
  rw [List.getD_eq_getElem?_getD, List.getElem?_eq_getElem hi]
  exact List.getElem_mem hi
/-- what an executed text may have done -/
def EP (G : GA) (c : Nat) (Y : YS) (B : Nat) : Value → Nat → AH → Prop := fun v bv' F' => ∃ r : Int32, v = .int r ∧ ((r ≤ -7400 ∧ LK G c Y (B + 2480) bv' F') ∨ ((∃ n, n ≤ 61 ∧ r = nI n) ∧ ∃ σ, (WI Y.1 → WI σ) ∧ LK G c (σ, Y.2.1, pushH Y.2.2 Y.1) (B + 2480) bv' F'))
section
variable {G : GA} {F0 : AH} {c bv0 B a v : Nat} {Y : YS} {T : List Int32}
set_option maxRecDepth 100000 in
set_option maxHeartbeats 4000000 in
theorem L_runs_ok (hK0 : LK G c Y B bv0 F0) (ha : gN G ≤ c) (hB : B + 2480 ≤ 2 ^ 21) (hS : STX G F0 a v T) (hA : AS T) (hl : T.length ≤ 16) (h1 : c + 131 ≤ a ∧ a < F0.1 ∧ ¬ a = bv0) (h2 : c + 131 ≤ v ∧ v < F0.1 ∧ ¬ v = bv0) : AC G mL_runs 13 17 102 [.ref c, .ref a] F0 (LE (EP G c Y B) c bv0 F0) := by
  have lp : ∀ r k F bv bc bs l3, k + r = T.length → r + 1 ≤ bc → 6 * r + 6 ≤ bs → LKt G c Y B (T.take k) bv F → XF c bv0 bv F0 F → AF G mL_runs 13 bc bs (LE (EP G c Y B) c bv0 F0) F 2 [some (.ref c), some (.ref a), some (.int (nI k)), l3] [] := by
    intro r
    induction r with
    | zero =>
      intro k F bv bc bs l3 hk hb hs hK hX
      have hS' := hS.kept (hX.at h1.2.1 h1.1 h1.2.2) (hX.at h2.2.1 h2.1 h2.2.2)
      have e9 : k = T.length := by omega
      subst e9
      rw [List.take_length] at hK
      refine AF.less (d' := 13) (bc' := 1) (bs' := 6) ?_ (Nat.le_refl _) (by omega) (by omega)
      refine AF.iload_n dL_runs_2 rfl ?_
      refine AF.aload_n dL_runs_3 rfl ?_
      refine AF.scall hS' dL_runs_4 jv_L_163 rfl (J0_length_s hS') rfl rfl (Nat.le_of_ble_eq_true rfl) (by decide) rfl ?_
      refine AF.icmp_ge 26 dL_runs_7 (by decide) (fun c1 => ?_) (fun c1 => ?_)
      · refine AF.aload_n dL_runs_26 rfl ?_
        refine AF.lex (mc' := 1) (ms' := 6) (bc := 0) (bs := 0) dL_runs_27 kx_L_174 (W_execute hK ha hB) hX rfl rfl (Nat.le_of_ble_eq_true rfl) (by decide) rfl (fun F bv w hP hX => ?_)
        obtain ⟨r, rfl, hP⟩ := hP
        exact AF.ireturn dL_runs_30 rfl ⟨.int r, bv, rfl, ⟨r, rfl, hP⟩, hX⟩
      · exact absurd (nI_le (a := T.length) (b := T.length) (by omega) (by omega)) c1
    | succ r ih =>
      intro k F bv bc bs l3 hk hb hs hK hX
      have hS' := hS.kept (hX.at h1.2.1 h1.1 h1.2.2) (hX.at h2.2.1 h2.1 h2.2.2)
      obtain ⟨ch, hc, he⟩ := hA k (by omega)
      refine AF.less (d' := 13) (bc' := r + 2) (bs' := 6 * r + 12) ?_ (Nat.le_refl _) (by omega) (by omega)
      refine AF.iload_n dL_runs_2 rfl ?_
      refine AF.aload_n dL_runs_3 rfl ?_
      refine AF.scall hS' dL_runs_4 jv_L_163 rfl (J0_length_s hS') rfl rfl (Nat.le_of_ble_eq_true rfl) (by decide) rfl ?_
      refine AF.icmp_ge 26 dL_runs_7 (by decide) (fun c1 => ?_) (fun c1 => ?_)
      · rw [nI_leI (by omega) (by omega)] at c1; omega
      · refine AF.aload_n dL_runs_10 rfl ?_
        refine AF.aload_n dL_runs_11 rfl ?_
        refine AF.iload_n dL_runs_12 rfl ?_
        refine AF.scall hS' dL_runs_13 jv_L_168 rfl (J0_charAt_s hS' (show k < T.length by omega) (by omega) hc he) rfl rfl (Nat.le_of_ble_eq_true rfl) (by decide) rfl ?_
        refine AF.lx (mc' := 1) (ms' := 6) (bc := r + 1) (bs := 6 * r + 6) dL_runs_16 kx_L_171 (W_feed hK ha (by rw [List.length_take]; omega) hc) hX rfl rfl (Nat.le_of_ble_eq_true rfl) (by decide) rfl (fun F bv hK hX => ?_)
        have et : T.take k ++ [nI ch] = T.take (k + 1) := by
          rw [← he, List.take_add_one]
          congr 1
          rw [List.getD_eq_getElem?_getD, List.getElem?_eq_getElem (show k < T.length by omega)]
          rfl
        rw [et] at hK
        refine AF.istore_n dL_runs_19 (by decide) ?_
        refine AF.inc1 dL_runs_20 rfl (by decide) ?_
        refine AF.goto 2 dL_runs_23 (by decide) ?_
        exact ih (k + 1) F bv _ _ _ (by omega) (by omega) (by omega) hK hX
  refine AC.of [some (.ref c), some (.ref a), none, none] rfl (by decide) (Nat.le_of_ble_eq_true rfl) rfl ?_
  refine AF.iconst (nI 0) dL_runs_0 (by decide) ?_
  refine AF.istore_n dL_runs_1 (by decide) ?_
  exact lp T.length 0 F0 bv0 _ _ none (by omega) (by omega) (by omega) hK0 XF.rf
end

