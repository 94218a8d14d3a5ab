/-! What the start gives, put together: GOK. -/
def wk : Cond → Bool
  | .laysStatic .. => true
  | .soleField .. => true
  | .arrayOver _ => true
  | .arrayClass _ => true
  | .stringRef .. => true
  | c => c.onTables
theorem wk_at {A A' : Array Value} {s : State} : ∀ c : Cond, wk c = true → c.before A s = true → c.before A' s = true := by
  intro c hc h
  cases c <;> first | exact h | exact va_tabs hc rfl h | (simp [wk, Cond.onTables] at hc)
theorem lw_wk : lw_tbl.all wk = true := by decide +kernel
abbrev gAs (s : State) : Nat → Prop := fun q => s.heap.size ≤ q
theorem hAs {s : State} : ∀ a : Nat, a < s.heap.size → ¬ gAs s a := fun _ h => Nat.not_le.mpr h
theorem arr_of {args : Array Value} {s : State} {ty : FieldType} (h : (Cond.arrayClass ty).before args s = true) : ∃ cA : ClassId, ArrOfT s cA ty ∧ s.vm.findClass ("[" ++ ty.toString) = some cA := by
  obtain ⟨cA, kA, comp, h1, h2, h3⟩ := Cond.arrayClass_spec h
  exact ⟨cA, fun n z => ⟨fun k h => (by cases h), kA, h2, comp, h3⟩, h1⟩
theorem arr_ofO {args : Array Value} {s : State} {C : String} (h : (Cond.arrayOver (.object C)).before args s = true) : ∃ cA : ClassId, ArrOfT s cA (.object C) ∧ va_RA s cA (.object C) := by
  obtain ⟨comp, c, k, h1, h2, h3, h4, h5⟩ := Cond.arrayOver_spec h
  exact ⟨c, fun n z => ⟨fun k h => (by cases h), k, h3, comp, h4⟩, k, comp, h3, h4, h1, h5⟩
theorem T_of {args : Array Value} {s : State} {tm : Term} {ty : FieldType} {n : Nat} {f : Nat → Int32} (hn : n < 2 ^ 31) (h : ∀ w ∈ tneed tm ty n f, w.before args s = true) : ∃ t : Nat, tm.eval args s none [] s = some (.ref t) ∧ va_T ty t n (fun j => .int (f j)) (gAs s) s s.heap :=
  va_Tof hn (h _ List.mem_cons_self) (va_eqt (h _ (List.mem_cons_of_mem _ List.mem_cons_self))) (fun j hj => va_eqt (h _ (List.mem_cons_of_mem _ (List.mem_cons_of_mem _ (List.mem_map.mpr ⟨j, List.mem_range.mpr hj, rfl⟩))))) hAs
theorem S_of {args : Array Value} {s : State} {own : String} {k : Nat} {tx : String} (hn : tx.toList.length < 2 ^ 31) (h : ∀ w ∈ sneed own k tx, w.before args s = true) : ∃ a v : Nat, (Term.string own k).eval args s none [] s = some (.ref a) ∧ va_O "java/lang/String" a (gAs s) s s.heap ∧ va_OF "java/lang/String" "coder" "B" (.int 0) a (gAs s) s s.heap ∧ va_OF "java/lang/String" "value" "[B" (.ref v) a (gAs s) s s.heap ∧ va_T .byte v tx.toList.length (fun j => .int (sby tx j)) (gAs s) s s.heap := by
  have hex := h _ List.mem_cons_self
  obtain ⟨a, c, cell, kk, q1, -⟩ := Cond.exactly_spec (args := args) (first := s) (o := none) (s := s) (idx := []) (t := .string own k) (cls := "java/lang/String") hex
  obtain ⟨v, hv, hT⟩ := T_of hn (fun w hw => h w (List.mem_cons_of_mem _ (List.mem_cons_of_mem _ hw)))
  exact ⟨a, v, q1, va_Oof hex q1 hAs, vk_OFof q1 (va_eqt (h _ (List.mem_cons_of_mem _ List.mem_cons_self))) hAs, vk_OFof q1 hv hAs, hT⟩
theorem sl_len : ∀ q ∈ slist, q.2.2.toList.length < 2 ^ 31 := by decide +kernel
theorem sl_pat : ∀ i, i < 9 → ("FountainShow$Command", cpk.getD i 0, pats.getD i "") ∈ slist := by decide +kernel
def lPs : List Nat := [522, 665, 514, 520, 524]
def lCs : List Nat := [1611, 1612, 1613, 1614, 164, 1615, 1616, 1617, 1618]
theorem lP_ok : ∀ i, i < 5 → tables_1[lPs.getD i 0]? = some (.laysStatic "FountainShow$Problem" (pnm.getD i "") "LFountainShow$Problem;") := by decide +kernel
theorem lC_ok : ∀ i, i < 9 → tables_1[lCs.getD i 0]? = some (.laysStatic "FountainShow$Command" (cnm.getD i "") "LFountainShow$Command;") := by decide +kernel
theorem nNC_at : ∀ q ∈ ncs, ∃ i : Nat, nlA[i]? = some (Cond.not (.castable q.1 q.2)) := by
  intro q hq
  have h : some (Cond.not (.castable q.1 q.2)) ∈ ncs.map (fun q => some (Cond.not (.castable q.1 q.2))) := List.mem_map.mpr ⟨q, hq, rfl⟩
  rw [nNC] at h
  obtain ⟨i, -, e⟩ := List.mem_map.mp h
  exact ⟨i, e⟩
/-- the constants' addresses, out of their families -/
def gkF (fP fC fS fV : Nat → Nat) (a b c d e : Nat) : Nat → Nat := fun k => if k < 5 then fP k else if k < 14 then fC (k - 5) else if k < 20 then (if k = 14 then a else if k = 15 then b else c) else if k < 30 then fS (k - 20) else if k < 40 then fV (k - 30) else if k = 40 then d else e
section
variable {fP fC fS fV : Nat → Nat} {a b c d e : Nat}
theorem gkF_P {i : Nat} (h : i < 5) : gkF fP fC fS fV a b c d e i = fP i := if_pos h
theorem gkF_C {i : Nat} (h : i < 9) : gkF fP fC fS fV a b c d e (5 + i) = fC i := by
  unfold gkF
  rw [if_neg (by omega), if_pos (by omega), show 5 + i - 5 = i by omega]
theorem gkF_S {i : Nat} (h : i < 9) : gkF fP fC fS fV a b c d e (20 + i) = fS i := by
  unfold gkF
  rw [if_neg (by omega), if_neg (by omega), if_neg (by omega), if_pos (by omega), show 20 + i - 20 = i by omega]
theorem gkF_V {i : Nat} (h : i < 9) : gkF fP fC fS fV a b c d e (30 + i) = fV i := by
  unfold gkF
  rw [if_neg (by omega), if_neg (by omega), if_neg (by omega), if_neg (by omega), if_pos (by omega), show 30 + i - 30 = i by omega]
end
theorem ch_n {P : Nat → Nat → Prop} {N : Nat} (h : ∀ i, i < N → ∃ a, P i a) : ∃ f : Nat → Nat, ∀ i, i < N → P i (f i) := by
  have h0 : ∀ i, ∃ a, i < N → P i a := fun i => by
    by_cases q : i < N
    · obtain ⟨a, ha⟩ := h i q
      exact ⟨a, fun _ => ha⟩
    · exact ⟨0, fun z => absurd z q⟩
  exact ⟨fun i => Classical.choose (h0 i), fun i hi => Classical.choose_spec (h0 i) hi⟩
theorem ch_2 {P : Nat → Nat → Nat → Prop} {N : Nat} (h : ∀ i, i < N → ∃ a v, P i a v) : ∃ f g : Nat → Nat, ∀ i, i < N → P i (f i) (g i) := by
  obtain ⟨f, hf⟩ := ch_n (P := fun i a => ∃ v, P i a v) (N := N) h
  obtain ⟨g, hg⟩ := ch_n (P := fun i v => P i (f i) v) (N := N) hf
  exact ⟨f, g, hg⟩
theorem K_cls {args : Array Value} {s : State} (hts : ∀ w ∈ lw_tbl, w.before args s = true) : ∃ D : va_G, ∀ (k : Nat) (q : vw_C), cls[k]? = some q → u_Kn s q.1 q.2.1 q.2.2 (D.1 k) (D.2 k) := by
  obtain ⟨c0, s0, k0⟩ := u_known (C := RX2) (T := TX2) (N := 5) (n := 5) hts i_X2 (hts (.instantiable RX2 5) (tb 80 (by decide +kernel)))
  obtain ⟨c1, s1, k1⟩ := u_known (C := RX3) (T := TX3) (N := 5) (n := 5) hts i_X3 (hts (.instantiable RX3 5) (tb 49 (by decide +kernel)))
  obtain ⟨c2, s2, k2⟩ := u_known (C := RX4) (T := TX4) (N := 2) (n := 2) hts i_X4 (hts (.instantiable RX4 2) (tb 145 (by decide +kernel)))
  obtain ⟨c3, s3, k3⟩ := u_known (C := RX6) (T := TX6) (N := 7) (n := 7) hts i_X6 (hts (.instantiable RX6 7) (tb 158 (by decide +kernel)))
  obtain ⟨c4, s4, k4⟩ := u_known (C := RX7) (T := TX7) (N := 8) (n := 8) hts i_X7 (hts (.instantiable RX7 8) (tb 43 (by decide +kernel)))
  obtain ⟨c5, s5, k5⟩ := u_known (C := RX8) (T := TX8) (N := 12) (n := 12) hts i_X8 (hts (.instantiable RX8 12) (tb 35 (by decide +kernel)))
  obtain ⟨c6, s6, k6⟩ := u_known (C := RX2) (T := TX2) (N := 5) (n := 5) hts i_X2 (hts (.instantiable RX2 5) (tb 80 (by decide +kernel)))
  obtain ⟨c7, s7, k7⟩ := u_known (C := RJ4) (T := TJ4) (N := 4) (n := 4) hts i_J4 (hts (.instantiable RJ4 4) (tb 194 (by decide +kernel)))
  obtain ⟨c8, s8, k8⟩ := u_known (C := RJ0) (T := TJ0) (N := 4) (n := 4) hts i_J0 (hts (.instantiable RJ0 4) (tb 613 (by decide +kernel)))
  refine ⟨(fun k => if k = 0 then c0 else if k = 1 then c1 else if k = 2 then c2 else if k = 3 then c3 else if k = 4 then c4 else if k = 5 then c5 else if k = 6 then c6 else if k = 7 then c7 else c8, fun k => if k = 0 then s0 else if k = 1 then s1 else if k = 2 then s2 else if k = 3 then s3 else if k = 4 then s4 else if k = 5 then s5 else if k = 6 then s6 else if k = 7 then s7 else s8), ?_⟩
  intro k q hq
  match k, hq with
  | 0, hq => cases hq; exact k0
  | 1, hq => cases hq; exact k1
  | 2, hq => cases hq; exact k2
  | 3, hq => cases hq; exact k3
  | 4, hq => cases hq; exact k4
  | 5, hq => cases hq; exact k5
  | 6, hq => cases hq; exact k6
  | 7, hq => cases hq; exact k7
  | 8, hq => cases hq; exact k8
  | k + 9, hq => simp [cls] at hq
theorem K_tys {args : Array Value} {s : State} (hts : ∀ w ∈ lw_tbl, w.before args s = true) : ∃ g : Nat → ClassId, ∀ (k : Nat) (q : ClassId × FieldType), (gtys g)[k]? = some q → ArrOfT s q.1 q.2 ∧ va_RA s q.1 q.2 := by
  obtain ⟨c0, a0, f0⟩ := arr_of (hts (.arrayClass .int) (tb 78 (by decide +kernel)))
  obtain ⟨c1, a1, f1⟩ := arr_of (hts (.arrayClass .long) (tb 1573 (by decide +kernel)))
  obtain ⟨c2, a2, f2⟩ := arr_of (hts (.arrayClass .char) (tb 192 (by decide +kernel)))
  obtain ⟨c3, a3, f3⟩ := arr_of (hts (.arrayClass .long) (tb 1573 (by decide +kernel)))
  obtain ⟨c5, a5, f5⟩ := arr_of (hts (.arrayClass .byte) (tb 225 (by decide +kernel)))
  obtain ⟨c4, a4, f4⟩ := arr_ofO (hts (.arrayOver (.object RX7)) (tb 143 (by decide +kernel)))
  refine ⟨fun k => if k = 0 then c0 else if k = 1 then c1 else if k = 2 then c2 else if k = 3 then c3 else if k = 4 then c4 else c5, ?_⟩
  intro k q hq
  match k, hq with
  | 0, hq => cases hq; exact ⟨a0, f0⟩
  | 1, hq => cases hq; exact ⟨a1, f1⟩
  | 2, hq => cases hq; exact ⟨a2, f2⟩
  | 3, hq => cases hq; exact ⟨a3, f3⟩
  | 4, hq => cases hq; exact ⟨a4, f4⟩
  | 5, hq => cases hq; exact ⟨a5, f5⟩
  | k + 6, hq => simp [gtys] at hq
set_option maxHeartbeats 4000000 in
theorem GOK_start {l : Launch} (hflags : l.flags = flags0) {s : State} {b : Nat} (hts : ∀ w ∈ lw_tbl, w.before #[Value.ref b] s = true) (hgv : gvn.before #[Value.ref b] s = true) : ∃ (D : va_G) (gc : Nat → ClassId) (gk : Nat → Nat), GOK (l, s, D, gc, gk) := by
  obtain ⟨D, hD⟩ := K_cls hts
  obtain ⟨gc, hg⟩ := K_tys hts
  have hP0 : ∀ i, i < 5 → ∃ a : Nat, (tP i).eval #[Value.ref b] s none [] s = some (.ref a) ∧ va_Z "FountainShow$Problem" (pnm.getD i "") "LFountainShow$Problem;" (.ref a) (gAs s) s s.heap ∧ va_O "FountainShow$Problem" a (gAs s) s s.heap ∧ va_OF "java/lang/Enum" "ordinal" "I" (.int (nI i)) a (gAs s) s s.heap := by
    intro i hi
    have hex := nl_at hgv _ (nPE i hi)
    obtain ⟨a, c, cell, kk, q1, -⟩ := Cond.exactly_spec (args := #[Value.ref b]) (first := s) (o := none) (s := s) (idx := []) (t := tP i) (cls := "FountainShow$Problem") hex
    exact ⟨a, q1, va_Zof (hts _ (tb _ (lP_ok i hi))) (hts (.initialized "FountainShow$Problem") (tb 29 (by decide +kernel))) q1 hAs, va_Oof hex q1 hAs, vk_OFof q1 (va_eqt (nl_at hgv _ (nPO i hi))) hAs⟩
  have hC0 : ∀ i, i < 9 → ∃ a : Nat, (tC i).eval #[Value.ref b] s none [] s = some (.ref a) ∧ va_O "FountainShow$Command" a (gAs s) s s.heap ∧ va_OF "java/lang/Enum" "ordinal" "I" (.int (nI i)) a (gAs s) s s.heap ∧ va_Z "FountainShow$Command" (cnm.getD i "") "LFountainShow$Command;" (.ref a) (gAs s) s s.heap := by
    intro i hi
    have hex := nl_at hgv _ (nCE i hi)
    obtain ⟨a, c, cell, kk, q1, -⟩ := Cond.exactly_spec (args := #[Value.ref b]) (first := s) (o := none) (s := s) (idx := []) (t := tC i) (cls := "FountainShow$Command") hex
    exact ⟨a, q1, va_Oof hex q1 hAs, vk_OFof q1 (va_eqt (nl_at hgv _ (nCO i hi))) hAs, va_Zof (hts _ (tb _ (lC_ok i hi))) (hts (.initialized "FountainShow$Command") (tb 8 (by decide +kernel))) q1 hAs⟩
  obtain ⟨fP, hP⟩ := ch_n hP0
  obtain ⟨fC, hC⟩ := ch_n hC0
  have hS0 : ∀ i, i < 9 → ∃ a v : Nat, (Term.string "FountainShow$Command" (cpk.getD i 0)).eval #[Value.ref b] s none [] s = some (.ref a) ∧ va_O "java/lang/String" a (gAs s) s s.heap ∧ va_OF "java/lang/String" "coder" "B" (.int 0) a (gAs s) s s.heap ∧ va_OF "java/lang/String" "value" "[B" (.ref v) a (gAs s) s s.heap ∧ va_T .byte v (pats.getD i "").toList.length (fun j => .int (sby (pats.getD i "") j)) (gAs s) s s.heap := fun i hi => S_of (sl_len _ (sl_pat i hi)) (nS hgv _ (sl_pat i hi))
  obtain ⟨fS, fV, hS⟩ := ch_2 hS0
  obtain ⟨aSP, e1, t1⟩ := T_of (s := s) (n := 5) (by decide) (nl_blk hgv _ _ nSP)
  obtain ⟨aSC, e2, t2⟩ := T_of (s := s) (n := 9) (by decide) (nl_blk hgv _ _ nSC)
  obtain ⟨aD1, e3, t3⟩ := T_of (s := s) (n := 100) (by decide) (nl_blk hgv _ _ nD1)
  obtain ⟨aD2, e4, t4⟩ := T_of (s := s) (n := 100) (by decide) (nl_blk hgv _ _ nD2)
  obtain ⟨aCO, e5, t5⟩ := va_Tof (s := s) (args := #[Value.ref b]) (tm := tCO) (ty := .object "FountainShow$Command") (N := 9) (f := fun j => .ref (fC j)) (A := gAs s) (by decide) (nl_at hgv _ nCA) (va_eqt (nl_at hgv _ nCL)) (fun j hj => va_eqv (nl_at hgv _ (nCx j hj)) (hC j hj).1) hAs
  refine ⟨D, gc, gkF fP fC fS fV aCO aSP aSC aD1 aD2, fun w hw => wk_at w (List.all_eq_true.mp lw_wk w hw) (hts w hw), ?_, ⟨hD, hg⟩, ?_, ?_, ?_, ⟨?_, ?_, ?_, ?_, ?_, ?_, ?_, ?_, ?_, ?_⟩, ?_⟩
  · show l.stackTraces = false
    unfold Launch.stackTraces
    rw [hflags]
    decide +kernel
  · exact vx_Zqof (hts (.laysStatic Bundle.tN "UNASSIGNED_STACK" Bundle.steD) (tb 371 (by decide +kernel))) (hts (.initialized Bundle.tN) (tb 13 (by decide +kernel))) (nl_at hgv _ nUN) hAs
  · exact vx_Zqof (hts (.laysStatic Bundle.tN "SUPPRESSED_SENTINEL" Bundle.listD) (tb 373 (by decide +kernel))) (hts (.initialized Bundle.tN) (tb 13 (by decide +kernel))) (nl_at hgv _ nSE) hAs
  · intro own k tx hw
    have h := List.all_eq_true.mp lw_S _ hw
    have hm : (own, k, tx) ∈ slist := List.contains_iff_mem.mp h
    obtain ⟨a, v, q1, q2⟩ := S_of (sl_len _ hm) (nS hgv _ hm)
    exact ⟨a, v, vk_R.of (hts _ hw) q1, q2⟩
  · intro i hi
    rw [show gk (l, s, D, gc, gkF fP fC fS fV aCO aSP aSC aD1 aD2) i = fP i from gkF_P hi]
    exact (hP i hi).2
  · intro i j hi hj e
    have e : fP i = fP j := by
      have e : gkF fP fC fS fV aCO aSP aSC aD1 aD2 i = gkF fP fC fS fV aCO aSP aSC aD1 aD2 j := e
      rwa [gkF_P hi, gkF_P hj] at e
    rcases qNE_all i hi j hj with q | ⟨q, hq, r1, r2⟩ | ⟨q, hq, r1, r2⟩
    · exact q
    · have h := nl_at hgv _ (nNE q hq)
      rw [r1, r2] at h
      exact absurd e (va_neR h (hP i hi).1 (hP j hj).1)
    · have h := nl_at hgv _ (nNE q hq)
      rw [r1, r2] at h
      exact absurd e.symm (va_neR h (hP j hj).1 (hP i hi).1)
  · exact ⟨va_Zof (hts (.laysStatic "FountainShow$1" "$SwitchMap$FountainShow$Problem" "[I") (tb 529 (by decide +kernel))) (hts (.initialized "FountainShow$1") (tb 30 (by decide +kernel))) e1 hAs, t1⟩
  · refine ⟨va_Zof (hts (.laysStatic "FountainShow" "COMMANDS" "[LFountainShow$Command;") (tb 1105 (by decide +kernel))) (hts (.initialized "FountainShow") (tb 1 (by decide +kernel))) e5 hAs, ?_, ?_⟩
    · refine ⟨_, t5.choose_spec.1, t5.choose_spec.2.1, t5.choose_spec.2.2.1, t5.choose_spec.2.2.2.1, t5.choose_spec.2.2.2.2.1, fun j hj => ?_, t5.choose_spec.2.2.2.2.2.2⟩
      rw [t5.choose_spec.2.2.2.2.2.1 j hj]
      show some (Value.ref (fC j)) = some (Value.ref (gkF fP fC fS fV aCO aSP aSC aD1 aD2 (5 + j)))
      rw [gkF_C hj]
    · show va_Z "FountainShow$Command" "TRIM" "LFountainShow$Command;" (.ref (gkF fP fC fS fV aCO aSP aSC aD1 aD2 (5 + 4))) _ _ _
      rw [gkF_C (by omega)]
      exact (hC 4 (by omega)).2.2.2
  · intro i hi
    rw [show gk (l, s, D, gc, gkF fP fC fS fV aCO aSP aSC aD1 aD2) (5 + i) = fC i from gkF_C hi, show gk (l, s, D, gc, gkF fP fC fS fV aCO aSP aSC aD1 aD2) (20 + i) = fS i from gkF_S hi, show gk (l, s, D, gc, gkF fP fC fS fV aCO aSP aSC aD1 aD2) (30 + i) = fV i from gkF_V hi]
    exact ⟨(hC i hi).2.1, (hC i hi).2.2.1, vk_OFof (hC i hi).1 (va_eqv (nl_at hgv _ (nCP i hi)) (hS i hi).1) hAs, (hS i hi).2⟩
  · exact ⟨va_Zof (hts (.laysStatic "FountainShow$1" "$SwitchMap$FountainShow$Command" "[I") (tb 1152 (by decide +kernel))) (hts (.initialized "FountainShow$1") (tb 30 (by decide +kernel))) e2 hAs, t2⟩
  · exact va_Zof (hts (.laysStatic "java/lang/String" "COMPACT_STRINGS" "Z") (tb 203 (by decide +kernel))) (hts (.initialized "java/lang/String") (tb 11 (by decide +kernel))) (va_eqi (nl_at hgv _ nCS)) hAs
  · exact va_Zqof (hts (.laysStatic "jdk/internal/util/Preconditions" "SIOOBE_FORMATTER" "Ljava/util/function/BiFunction;") (tb 896 (by decide +kernel))) (hts (.initialized "jdk/internal/util/Preconditions") (tb 23 (by decide +kernel))) (nl_at hgv _ nSF) hAs
  · exact ⟨va_Zof (hts (.laysStatic "java/lang/Integer" "DigitOnes" "[B") (tb 966 (by decide +kernel))) (hts (.initialized "java/lang/Integer") (tb 26 (by decide +kernel))) e3 hAs, t3⟩
  · exact ⟨va_Zof (hts (.laysStatic "java/lang/Integer" "DigitTens" "[B") (tb 968 (by decide +kernel))) (hts (.initialized "java/lang/Integer") (tb 26 (by decide +kernel))) e4 hAs, t4⟩
  · intro q hq
    obtain ⟨i, e⟩ := nNC_at q hq
    exact va_Nc.of (nl_at hgv i e)

