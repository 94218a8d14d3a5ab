/-! The show: its output. -/
def ouX (X : XS) (T : List Int32) : XS := (X.sg, X.sv, X.hs, X.tx, T, X.er, X.fa)
section
variable {G : GA} {F F0 F' : AH} {c bv B : Nat} {X : XS} {T T' : List Int32}
theorem CX.bld {bv' cap : Nat} (h : CX G F c bv X) (hz : c + 131 ≤ F.1) (hB : BA G F' (c + 41) bv' T' cap) (g : Gw (c + 41) bv bv' F F') : CX G F' c bv' (ouX X T') ∧ XF c bv bv' F F' := by
  obtain ⟨hn, hf, ⟨h0, h1⟩, h2, h3, ⟨τ, h4⟩, ⟨τ', h5, h6⟩, h7, h8, ⟨pl, cc, cm, ns, h9⟩, h10⟩ := h
  have hb := h10.2
  obtain ⟨g1, g2, g3⟩ := g
  refine ⟨⟨hn, hf, ⟨(g3 c (by omega) (by omega) (by omega)).trans h0, (g3 (c + 34) (by omega) (by omega) (by omega)).trans h1⟩, h2, h3.kept (fun q q1 q2 => g3 q (by omega) (by omega) (by omega)), ⟨τ, h4.kept (fun q q1 q2 => g3 q (by omega) (by omega) (by omega))⟩, ⟨τ', h5.kept (fun q q1 q2 => g3 q (by omega) (by omega) (by omega)), h6⟩, h7.kept (fun q q1 q2 => g3 q (by omega) (by omega) (by omega)), h8.kept (fun q q1 q2 => g3 q (by omega) (by omega) (by omega)), ⟨pl, cc, cm, ns, h9.kept (fun q q1 q2 => g3 q (by omega) (by omega) (by omega))⟩, ⟨cap, hB⟩, by omega⟩, g1, g2, fun q q1 q2 q3 => g3 q q1 (by omega) q3⟩
theorem wrF_pos {L : List Sp} {k : Nat} : 0 < (wrF L k).length ↔ 0 < k := by
  cases k with
  | zero => simp [wrF]
  | succ k =>
    have h : 0 < (wrS (g3 L k)).length := by simp only [wrS, List.length_append, List.length_cons, List.length_nil]; omega
    simp only [wrF, List.length_append]
    constructor <;> intro _ <;> omega
set_option maxRecDepth 100000 in
set_option maxHeartbeats 4000000 in
theorem X8_writeStep_ok (hC : CX G F0 c bv (ouX X T)) (ha : gN G ≤ c) (hz : c + 131 ≤ F0.1) (hI : SQ X.sg B) (i k : Nat) (hi : i < X.sg.Fg.length) (hk : k < (fg X.sg.Fg i).length) (hl : T.length + 9 ≤ 142) : AC G mX8_writeStep 6 6 852 [.ref c, .int (nI (i * 8 + k))] F0 (fun r F' => r = .inl none ∧ ∃ bv', CX G F' c bv' (ouX X ((T ++ (if 0 < T.length then [nI 32] else [])) ++ wrS (g3 (fg X.sg.Fg i) k))) ∧ XF c bv bv' F0 F') := by
  obtain ⟨⟨i1, i2, i3, i4, i5⟩, i6, i7, i8, i9, i10⟩ := id hI
  have hk8 := i9 i hi
  obtain ⟨f1, f2, f3⟩ := i3 i k hk
  obtain ⟨s, hs⟩ : ∃ s, s = g3 (fg X.sg.Fg i) k := ⟨_, rfl⟩
  rw [← hs] at f1 f2 f3 ⊢
  have w1 := wrN_le (n := s.1)
  have w2 := wrN_le (n := s.2.1)
  refine AC.of [some (.ref c), some (.int (nI (i * 8 + k)))] rfl (by decide) (Nat.le_of_ble_eq_true rfl) rfl ?_
  have rest : ∀ T1 bv1 F1, CX G F1 c bv1 (ouX X T1) → XF c bv bv1 F0 F1 → T1.length + 8 ≤ 142 → T1 = T ++ (if 0 < T.length then [nI 32] else []) → AF G mX8_writeStep 6 (0 + 1 + 1 + 1 + 1 + 1) (0 + 142 + 142 + 142 + 142 + 142) (fun r F' => r = .inl none ∧ ∃ bv', CX G F' c bv' (ouX X ((T ++ (if 0 < T.length then [nI 32] else [])) ++ wrS s)) ∧ XF c bv bv' F0 F') F1 20 [some (.ref c), some (.int (nI (i * 8 + k)))] [] := by
    intro T1 bv1 F1 hC1 hx1 hl1 hT1
    have z1 : c + 131 ≤ F1.1 := by have := hx1.1; omega
    obtain ⟨hn, hf, ⟨c0, -⟩, -, hS, -, -, -, -, -, ⟨⟨cap, hB⟩, -⟩⟩ := id hC1
    have hB : BA G F1 (c + 41) bv1 T1 cap := hB
    obtain ⟨ef, es, ⟨s0, -⟩, -, -, hG⟩ := hS
    obtain ⟨sc, dl, jt, op, ⟨g0, g1, g2, g3v, g4⟩, hR⟩ := hG
    have hr1 := ((hR.2 i hi).2.2 k hk).1
    obtain ⟨ml, a, ⟨b0, -⟩, -⟩ := id hB
    refine AF.aload_n dX8_writeStep_20 rfl ?_
    refine AF.getfield dX8_writeStep_21 fl_X8_54 (by assumption) rfl ?_
    refine AF.aload_n dX8_writeStep_24 rfl ?_
    refine AF.getfield dX8_writeStep_25 fl_X8_10 (by assumption) rfl ?_
    refine AF.getfield dX8_writeStep_28 fl_X8_187 (by assumption) rfl ?_
    refine AF.getfield dX8_writeStep_31 fl_X8_226 (by assumption) rfl ?_
    refine AF.iload_n dX8_writeStep_34 rfl ?_
    refine AF.iaload (i * 8 + k) dX8_writeStep_35 (by assumption) (by first | rfl | exact nI_1 _ | (simp only [nI_add, pk_mul, nI_1]; exact congrArg nI (by omega)) | simp only [nI_add, pk_mul, nI_1]) (by omega) (by decide) ?_
    rw [show dl (i * 8 + k) = nI s.1 by rw [hs]; exact hr1]
    refine AF.callV (mc' := 1) (ms' := 142) dX8_writeStep_36 jv_X8_396 (J4_appendI_ok hB (by omega) (by omega) s.1 (by omega) (by omega)) b0 rfl rfl rfl (Nat.le_of_ble_eq_true rfl) (by decide) rfl (fun E F9 q => nomatch q.1) (fun v F q => ?_)
    obtain ⟨q, bv2, cap2, hB2, gw2⟩ := q
    cases q
    obtain ⟨hC2, hx2⟩ := hC1.bld z1 hB2 gw2
    have hx2 := hx1.trans hx2
    have z2 : c + 131 ≤ F.1 := by have := hx2.1; omega
    clear c0 s0 g0 g1 g2 g3v g4 hR hr1 b0 hB
    obtain ⟨ml, a, ⟨b0, -⟩, -⟩ := id hB2
    refine AF.bipush (nI 58) dX8_writeStep_39 (by decide) ?_
    refine AF.callV (mc' := 1) (ms' := 142) dX8_writeStep_41 jv_X8_393 (J4_appendC_ok hB2 (by omega) (by omega) 58 (by omega) (by rw [List.length_append]; omega)) b0 rfl rfl rfl (Nat.le_of_ble_eq_true rfl) (by decide) rfl (fun E F9 q => nomatch q.1) (fun v F q => ?_)
    obtain ⟨q, bv3, cap3, hB3, gw3⟩ := q
    cases q
    obtain ⟨hC3, hx3⟩ := hC2.bld z2 hB3 gw3
    have hx3 := hx2.trans hx3
    have z3 : c + 131 ≤ F.1 := by have := hx3.1; omega
    clear b0
    obtain ⟨hn, hf, ⟨c0, -⟩, -, hS, -⟩ := id hC3
    obtain ⟨ef, es, ⟨s0, -⟩, -, -, hG⟩ := hS
    obtain ⟨sc, dl, jt, op, ⟨g0, g1, g2, g3v, g4⟩, hR⟩ := hG
    have hr1 := ((hR.2 i hi).2.2 k hk).2.1
    obtain ⟨ml, a, ⟨b0, -⟩, -⟩ := id hB3
    refine AF.pop dX8_writeStep_44 rfl ?_
    refine AF.aload_n dX8_writeStep_45 rfl ?_
    refine AF.getfield dX8_writeStep_46 fl_X8_54 (by assumption) rfl ?_
    refine AF.aload_n dX8_writeStep_49 rfl ?_
    refine AF.getfield dX8_writeStep_50 fl_X8_10 (by assumption) rfl ?_
    refine AF.getfield dX8_writeStep_53 fl_X8_187 (by assumption) rfl ?_
    refine AF.getfield dX8_writeStep_56 fl_X8_232 (by assumption) rfl ?_
    refine AF.iload_n dX8_writeStep_59 rfl ?_
    refine AF.iaload (i * 8 + k) dX8_writeStep_60 (by assumption) (by first | rfl | exact nI_1 _ | (simp only [nI_add, pk_mul, nI_1]; exact congrArg nI (by omega)) | simp only [nI_add, pk_mul, nI_1]) (by omega) (by decide) ?_
    rw [show jt (i * 8 + k) = nI s.2.1 by rw [hs]; exact hr1]
    refine AF.callV (mc' := 1) (ms' := 142) dX8_writeStep_61 jv_X8_396 (J4_appendI_ok hB3 (by omega) (by omega) s.2.1 (by omega) (by rw [List.length_append, List.length_append, List.length_singleton]; omega)) b0 rfl rfl rfl (Nat.le_of_ble_eq_true rfl) (by decide) rfl (fun E F9 q => nomatch q.1) (fun v F q => ?_)
    obtain ⟨q, bv4, cap4, hB4, gw4⟩ := q
    cases q
    obtain ⟨hC4, hx4⟩ := hC3.bld z3 hB4 gw4
    have hx4 := hx3.trans hx4
    have z4 : c + 131 ≤ F.1 := by have := hx4.1; omega
    clear c0 s0 g0 g1 g2 g3v g4 hR hr1 b0
    obtain ⟨ml, a, ⟨b0, -⟩, -⟩ := id hB4
    refine AF.bipush (nI 61) dX8_writeStep_64 (by decide) ?_
    refine AF.callV (mc' := 1) (ms' := 142) dX8_writeStep_66 jv_X8_393 (J4_appendC_ok hB4 (by omega) (by omega) 61 (by omega) (by rw [List.length_append, List.length_append, List.length_append, List.length_singleton]; omega)) b0 rfl rfl rfl (Nat.le_of_ble_eq_true rfl) (by decide) rfl (fun E F9 q => nomatch q.1) (fun v F q => ?_)
    obtain ⟨q, bv5, cap5, hB5, gw5⟩ := q
    cases q
    obtain ⟨hC5, hx5⟩ := hC4.bld z4 hB5 gw5
    have hx5 := hx4.trans hx5
    have z5 : c + 131 ≤ F.1 := by have := hx5.1; omega
    clear b0
    obtain ⟨hn, hf, ⟨c0, -⟩, -, hS, -⟩ := id hC5
    obtain ⟨ef, es, ⟨s0, -⟩, -, -, hG⟩ := hS
    obtain ⟨sc, dl, jt, op, ⟨g0, g1, g2, g3v, g4⟩, hR⟩ := hG
    have hr1 := ((hR.2 i hi).2.2 k hk).2.2
    obtain ⟨ml, a, ⟨b0, -⟩, -⟩ := id hB5
    refine AF.pop dX8_writeStep_69 rfl ?_
    refine AF.aload_n dX8_writeStep_70 rfl ?_
    refine AF.getfield dX8_writeStep_71 fl_X8_54 (by assumption) rfl ?_
    refine AF.aload_n dX8_writeStep_74 rfl ?_
    refine AF.getfield dX8_writeStep_75 fl_X8_10 (by assumption) rfl ?_
    refine AF.getfield dX8_writeStep_78 fl_X8_187 (by assumption) rfl ?_
    refine AF.getfield dX8_writeStep_81 fl_X8_234 (by assumption) rfl ?_
    refine AF.iload_n dX8_writeStep_84 rfl ?_
    refine AF.iaload (i * 8 + k) dX8_writeStep_85 (by assumption) (by first | rfl | exact nI_1 _ | (simp only [nI_add, pk_mul, nI_1]; exact congrArg nI (by omega)) | simp only [nI_add, pk_mul, nI_1]) (by omega) (by decide) ?_
    rw [show op (i * 8 + k) = nI s.2.2 by rw [hs]; exact hr1]
    refine AF.callV (mc' := 1) (ms' := 142) dX8_writeStep_86 jv_X8_396 (J4_appendI_ok hB5 (by omega) (by omega) s.2.2 (by omega) (by rw [List.length_append, List.length_append, List.length_append, List.length_append, List.length_singleton, List.length_singleton]; omega)) b0 rfl rfl rfl (Nat.le_of_ble_eq_true rfl) (by decide) rfl (fun E F9 q => nomatch q.1) (fun v F q => ?_)
    obtain ⟨q, bv6, cap6, hB6, gw6⟩ := q
    cases q
    obtain ⟨hC6, hx6⟩ := hC5.bld z5 hB6 gw6
    have hx6 := hx5.trans hx6
    refine AF.pop dX8_writeStep_89 rfl ?_
    refine AF.vreturn dX8_writeStep_90 rfl ⟨rfl, bv6, ?_, hx6⟩
    rw [← hT1]
    have e9 : T1 ++ wrS s = T1 ++ wrN s.1 ++ [nI 58] ++ wrN s.2.1 ++ [nI 61] ++ wrN s.2.2 := by simp [wrS, List.append_assoc]
    rw [e9]
    exact hC6
  have z0 := hz
  obtain ⟨hn, hf, ⟨c0, -⟩, -, -, -, -, -, -, -, ⟨⟨cap, hB⟩, -⟩⟩ := id hC
  have hB : BA G F0 (c + 41) bv T cap := hB
  obtain ⟨ml, a, ⟨b0, -⟩, -⟩ := id hB
  refine AF.aload_n dX8_writeStep_0 rfl ?_
  refine AF.getfield dX8_writeStep_1 fl_X8_54 (by assumption) rfl ?_
  refine AF.v1 dX8_writeStep_4 jv_X8_302 (J4_length_ok hB) b0 rfl rfl rfl (Nat.le_of_ble_eq_true rfl) (by decide) rfl ?_
  refine AF.if_le 20 dX8_writeStep_7 (by decide) (fun c1 => ?_) (fun c1 => ?_)
  · have c1 : nI T.length ≤ nI 0 := c1
    rw [nI_leI (by omega) (by omega)] at c1
    refine AF.less (d' := 6) ?_ (Nat.le_refl _) (show 0 + 1 + 1 + 1 + 1 + 1 ≤ 6 by omega) (show 0 + 142 + 142 + 142 + 142 + 142 ≤ 852 by omega)
    refine rest T bv F0 hC XF.rf (by omega) ?_
    rw [if_neg (by omega), List.append_nil]
  · have c1 : ¬ nI T.length ≤ nI 0 := c1
    rw [nI_leI (by omega) (by omega)] at c1
    refine AF.aload_n dX8_writeStep_10 rfl ?_
    refine AF.getfield dX8_writeStep_11 fl_X8_54 (by assumption) rfl ?_
    refine AF.bipush (nI 32) dX8_writeStep_14 (by decide) ?_
    refine AF.callV (bc := 0 + 1 + 1 + 1 + 1 + 1) (bs := 0 + 142 + 142 + 142 + 142 + 142) (mc' := 1) (ms' := 142) dX8_writeStep_16 jv_X8_393 (J4_appendC_ok hB (by omega) (by omega) 32 (by omega) (by omega)) b0 rfl rfl rfl (Nat.le_of_ble_eq_true rfl) (by decide) rfl (fun E F9 q => nomatch q.1) (fun v F q => ?_)
    obtain ⟨q, bv2, cap2, hB2, gw2⟩ := q
    cases q
    obtain ⟨hC2, hx2⟩ := hC.bld z0 hB2 gw2
    refine AF.pop dX8_writeStep_19 rfl ?_
    refine rest (T ++ [nI 32]) bv2 F hC2 hx2 (by rw [List.length_append, List.length_singleton]; omega) ?_
    rw [if_pos (by omega)]
set_option maxRecDepth 100000 in
set_option maxHeartbeats 2000000 in
theorem X8_writeFigure_ok (hC : CX G F0 c bv X) (ha : gN G ≤ c) (hz : c + 131 ≤ F0.1) (hI : SQ X.sg B) (x : Int32) : AC G mX8_writeFigure 11 50 6964 [.ref c, .int x] F0 (XQ G c bv (if hasB X.sg.Fg.length x = true then wrX X (cl x) else X) (rx [eIx] (if hasB X.sg.Fg.length x = true then 0 else 1) (.int (nI (wrF (fg X.sg.Fg (cl x)) (fg X.sg.Fg (cl x)).length).length))) F0) := by
  have hC0 := hC
  obtain ⟨⟨i1, i2, i3, i4, i5⟩, i6, i7, i8, i9, i10⟩ := id hI
  obtain ⟨hn, hf, ⟨c0, -⟩, -, -, -, -, -, -, -, ⟨⟨cap, hB⟩, -⟩⟩ := hC
  refine AC.of [some (.ref c), some (.int x), none] rfl (by decide) (Nat.le_of_ble_eq_true rfl) rfl ?_
  refine AF.aload_n dX8_writeFigure_0 rfl ?_
  refine AF.iload_n dX8_writeFigure_1 rfl ?_
  refine AF.callV (bc := 49) (bs := 6958) (mc' := 1) (ms' := 6) dX8_writeFigure_2 kv_X8_220 (X8_requireFigure_ok hC0 x) c0 rfl rfl rfl (Nat.le_of_ble_eq_true rfl) (by decide) rfl (fun E F' q => ?_) (fun v F' q => ?_)
  · obtain ⟨h, rfl, n, hn, rfl⟩ := q.x
    rw [if_neg h]
    exact XQ.x1 hC0 h hn
  · obtain ⟨h, rfl, rfl⟩ := q.n
    obtain ⟨j, hj, rfl⟩ := hasB_nI (by omega) h
    rw [if_pos h, show cl (nI j) = j from nI_clamp (by omega)]
    obtain ⟨L, hL⟩ : ∃ L, L = fg X.sg.Fg j := ⟨_, rfl⟩
    have l8 := i9 j hj
    rw [← hL] at l8 ⊢
    obtain ⟨ml, a, ⟨b0, -⟩, -⟩ := id hB
    refine AF.aload_n dX8_writeFigure_5 rfl ?_
    refine AF.getfield dX8_writeFigure_6 fl_X8_54 (by assumption) rfl ?_
    refine AF.iconst (nI 0) dX8_writeFigure_9 (by decide) ?_
    refine AF.callV (bc := 6 * 8) (bs := 852 * 8) (mc' := 1) (ms' := 142) dX8_writeFigure_10 jv_X8_296 (J4_setLength_ok hB (by omega) (by omega)) b0 rfl rfl rfl (Nat.le_of_ble_eq_true rfl) (by decide) rfl (fun E F9 q => nomatch q.1) (fun v F q => ?_)
    obtain ⟨q, bv2, cap2, hB2, gw2⟩ := q
    cases q
    obtain ⟨hC2, hx2⟩ := hC0.bld hz hB2 gw2
    have loop : ∀ r k bv1 F1, k + r = L.length → CX G F1 c bv1 (ouX X (wrF L k)) → XF c bv bv1 F' F1 → AF G mX8_writeFigure 11 (6 * r) (852 * r) (XQ G c bv (wrX X j) (rx [eIx] (if hasB X.sg.Fg.length (nI j) = true then 0 else 1) (.int (nI (wrF L L.length).length))) F') F1 15 [some (.ref c), some (.int (nI j)), some (.int (nI k))] [] := by
      intro r
      induction r with
      | zero =>
        intro k bv1 F1 hk hC1 hx1
        obtain rfl : k = L.length := by omega
        obtain ⟨hn, hf, ⟨c0, -⟩, -, hS, -, -, -, -, -, ⟨⟨cap, hB⟩, -⟩⟩ := id hC1
        have hB : BA G F1 (c + 41) bv1 (wrF L L.length) cap := hB
        obtain ⟨ef, es, ⟨s0, -⟩, -, -, hG⟩ := hS
        obtain ⟨sc, dl, jt, op, ⟨g0, g1, -⟩, hR⟩ := hG
        obtain ⟨ml, a, ⟨b0, -⟩, -⟩ := id hB
        refine AF.iload_n dX8_writeFigure_15 rfl ?_
        refine AF.aload_n dX8_writeFigure_16 rfl ?_
        refine AF.getfield dX8_writeFigure_17 fl_X8_10 (by assumption) rfl ?_
        refine AF.getfield dX8_writeFigure_20 fl_X8_187 (by assumption) rfl ?_
        refine AF.getfield dX8_writeFigure_23 fl_X8_223 (by assumption) rfl ?_
        refine AF.iload_n dX8_writeFigure_26 rfl ?_
        refine AF.iaload (j) dX8_writeFigure_27 (by assumption) (by first | rfl | exact nI_1 _ | (simp only [nI_add, pk_mul, nI_1]; exact congrArg nI (by omega)) | simp only [nI_add, pk_mul, nI_1]) (by omega) (by decide) ?_
        rw [show sc j = nI L.length by rw [hL]; exact (hR.2 j hj).2.1]
        refine AF.icmp_ge 46 dX8_writeFigure_28 (by decide) (fun c1 => ?_) (fun c1 => ?_)
        · refine AF.aload_n dX8_writeFigure_46 rfl ?_
          refine AF.getfield dX8_writeFigure_47 fl_X8_54 (by assumption) rfl ?_
          refine AF.v1 dX8_writeFigure_50 jv_X8_302 (J4_length_ok hB) b0 rfl rfl rfl (Nat.le_of_ble_eq_true rfl) (by decide) rfl ?_
          refine AF.ireturn dX8_writeFigure_53 rfl ⟨by unfold rx; rw [if_pos (if_pos h)], bv1, ?_, hx1⟩
          unfold wrX
          rw [← hL]
          exact hC1
        · exact absurd (Int32.le_refl _) c1
      | succ r ih =>
        intro k bv1 F1 hk hC1 hx1
        have z1 : c + 131 ≤ F1.1 := by have := hx1.1; omega
        obtain ⟨hn, hf, ⟨c0, -⟩, -, hS, -⟩ := id hC1
        obtain ⟨ef, es, ⟨s0, -⟩, -, -, hG⟩ := hS
        obtain ⟨sc, dl, jt, op, ⟨g0, g1, -⟩, hR⟩ := hG
        refine AF.iload_n dX8_writeFigure_15 rfl ?_
        refine AF.aload_n dX8_writeFigure_16 rfl ?_
        refine AF.getfield dX8_writeFigure_17 fl_X8_10 (by assumption) rfl ?_
        refine AF.getfield dX8_writeFigure_20 fl_X8_187 (by assumption) rfl ?_
        refine AF.getfield dX8_writeFigure_23 fl_X8_223 (by assumption) rfl ?_
        refine AF.iload_n dX8_writeFigure_26 rfl ?_
        refine AF.iaload (j) dX8_writeFigure_27 (by assumption) (by first | rfl | exact nI_1 _ | (simp only [nI_add, pk_mul, nI_1]; exact congrArg nI (by omega)) | simp only [nI_add, pk_mul, nI_1]) (by omega) (by decide) ?_
        rw [show sc j = nI L.length by rw [hL]; exact (hR.2 j hj).2.1]
        refine AF.icmp_ge 46 dX8_writeFigure_28 (by decide) (fun c1 => ?_) (fun c1 => ?_)
        · rw [nI_leI (by omega) (by omega)] at c1
          omega
        · refine AF.aload_n dX8_writeFigure_31 rfl ?_
          refine AF.iload_n dX8_writeFigure_32 rfl ?_
          refine AF.iload_n dX8_writeFigure_33 rfl ?_
          refine AF.s1 dX8_writeFigure_34 kv_X8_229 ((X8_slot_ok j k)) rfl rfl (Nat.le_of_ble_eq_true rfl) (by decide) rfl ?_
          have hw := wrF_le (L := L) k
          refine AF.callV (bc := 6 * r) (bs := 852 * r) (mc' := 6) (ms' := 852) dX8_writeFigure_37 kv_X8_299 (X8_writeStep_ok hC1 ha z1 hI j k hj (by rw [← hL]; omega) (by omega)) c0 rfl rfl rfl (Nat.le_of_ble_eq_true rfl) (by decide) rfl (fun E F9 q => nomatch q.1) (fun v F q => ?_)
          obtain ⟨q, bv3, hC3, hx3⟩ := q
          cases q
          refine AF.inc1 dX8_writeFigure_40 rfl (by decide) ?_
          refine AF.goto 15 dX8_writeFigure_43 (by decide) ?_
          refine ih (k + 1) bv3 F (by omega) ?_ (hx1.trans hx3)
          rw [← hL] at hC3
          have e9 : (if 0 < (wrF L k).length then [nI 32] else []) = (if 0 < k then [nI 32] else []) := by
            by_cases q : 0 < k
            · rw [if_pos q, if_pos (wrF_pos.mpr q)]
            · rw [if_neg q, if_neg (fun z => q (wrF_pos.mp z))]
          rw [e9] at hC3
          exact hC3
    refine AF.less (d' := 11) ?_ (Nat.le_refl _) (show 6 * L.length ≤ 6 * 8 by omega) (show 852 * L.length ≤ 852 * 8 by omega)
    refine AF.iconst (nI 0) dX8_writeFigure_13 (by decide) ?_
    refine AF.istore_n dX8_writeFigure_14 (by decide) ?_
    exact loop L.length 0 bv2 F (by omega) hC2 hx2
set_option maxRecDepth 100000 in
theorem X8_outputCharacter_ok (hC : CX G F c bv X) (hX : XI X B) (x : Int32) : AC G mX8_outputCharacter 11 1 6 [.ref c, .int x] F (XQ G c bv X (rx [eIx] (if hasB X.ou.length x = true then 0 else 1) (.int (X.ou.getD (cl x) 0))) F) := by
  have hC0 := hC
  obtain ⟨hn, hf, ⟨c0, -⟩, -, -, -, -, -, -, -, ⟨⟨cap, hB⟩, -⟩⟩ := hC
  obtain ⟨-, -, -, -, -, hl, hc⟩ := hX
  obtain ⟨ml, a, ⟨b0, -⟩, -⟩ := id hB
  refine AC.of [some (.ref c), some (.int x)] rfl (by decide) (Nat.le_of_ble_eq_true rfl) rfl ?_
  have th : ¬ hasB X.ou.length x = true → AF G mX8_outputCharacter 11 1 6 (XQ G c bv X (rx [eIx] (if hasB X.ou.length x = true then 0 else 1) (.int (X.ou.getD (cl x) 0))) F) F 15 [some (.ref c), some (.int x)] [] := fun c1 => AF.throwSW (bc := 0) (bs := 0) th_X8_305_307_309 dX8_outputCharacter_15 dX8_outputCharacter_18 dX8_outputCharacter_19 dX8_outputCharacter_22 dX8_outputCharacter_25 rfl (by decide) (Nat.le_of_ble_eq_true rfl) (fun n hn => XQ.x1 hC0 c1 hn)
  refine AF.iload_n dX8_outputCharacter_0 rfl ?_
  refine AF.if_lt 15 dX8_outputCharacter_1 (by decide) (fun c1 => ?_) (fun c1 => ?_)
  · refine th (fun q => ?_)
    unfold hasB at q
    rw [Bool.and_eq_true] at q
    exact absurd (of_decide_eq_true q.1) (Int32.not_le.mpr c1)
  · refine AF.iload_n dX8_outputCharacter_4 rfl ?_
    refine AF.aload_n dX8_outputCharacter_5 rfl ?_
    refine AF.getfield dX8_outputCharacter_6 fl_X8_54 (by assumption) rfl ?_
    refine AF.v1 dX8_outputCharacter_9 jv_X8_302 (J4_length_ok hB) b0 rfl rfl rfl (Nat.le_of_ble_eq_true rfl) (by decide) rfl ?_
    refine AF.icmp_lt 26 dX8_outputCharacter_12 (by decide) (fun c2 => ?_) (fun c2 => ?_)
    · have h : hasB X.ou.length x = true := by
        unfold hasB
        rw [decide_eq_true (Int32.not_lt.mp c1), decide_eq_true c2]
        rfl
      obtain ⟨j, hj, rfl⟩ := hasB_nI (by omega) h
      obtain ⟨z, hz1, hz2⟩ := hc j hj
      rw [show cl (nI j) = j from nI_clamp (by omega), hz2]
      refine AF.aload_n dX8_outputCharacter_26 rfl ?_
      refine AF.getfield dX8_outputCharacter_27 fl_X8_54 (by assumption) rfl ?_
      refine AF.iload_n dX8_outputCharacter_30 rfl ?_
      refine AF.v1 dX8_outputCharacter_31 jv_X8_310 (J4_charAt_ok hB j z hj hz1 hz2) b0 rfl rfl rfl (Nat.le_of_ble_eq_true rfl) (by decide) rfl ?_
      exact AF.zreturn dX8_outputCharacter_34 rfl (nar_cV hz1) (XQ.ok hC0 (if_pos h))
    · refine th (fun q => ?_)
      unfold hasB at q
      rw [Bool.and_eq_true] at q
      exact absurd (of_decide_eq_true q.2) c2
end

