/-! The text builder: numbers, emptying, its signs, its making. -/
theorem wrN_len {v : Nat} : (wrN v).length = ssz v := by unfold wrN ssz; split <;> rfl
theorem pgN_ok {a : Nat → Int32} {p v : Nat} (hv : v < 100) (h : NB a) : NB (pgN a (p + ssz v) v) ∧ (∀ i, i < p → pgN a (p + ssz v) v i = a i) ∧ ∀ i, i < ssz v → pgN a (p + ssz v) v (p + i) = (wrN v).getD i 0 := by
  have n1 := nar_b (48 + v % 10) (by omega)
  have n2 := nar_b (48 + v / 10) (by omega)
  unfold pgN ssz wrN
  by_cases q : 9 < v
  · simp only [if_pos q]
    refine ⟨NB_upd (NB_upd h n1) n2, fun i hi => by rw [upd_n (by omega), upd_n (by omega)], fun i hi => ?_⟩
    rcases (by omega : i = 0 ∨ i = 1) with rfl | rfl
    · rw [show p + 2 - 2 = p + 0 by omega, upd_s]; rfl
    · rw [upd_n (by omega), show p + 2 - 1 = p + 1 by omega, upd_s]; rfl
  · simp only [if_neg q]
    refine ⟨NB_upd h n1, fun i hi => by rw [upd_n (by omega)], fun i hi => ?_⟩
    obtain rfl : i = 0 := by omega
    rw [show p + 1 - 1 = p + 0 by omega, upd_s]; rfl
theorem gd_apL {A B : List Int32} {i : Nat} (h : i < A.length) : (A ++ B).getD i 0 = A.getD i 0 := by
  simp [List.getD_eq_getElem?_getD, List.getElem?_append_left h]
theorem gd_apR {A B : List Int32} {i : Nat} : (A ++ B).getD (A.length + i) 0 = B.getD i 0 := by
  rw [List.getD_eq_getElem?_getD, List.getD_eq_getElem?_getD, List.getElem?_append_right (Nat.le_add_right _ _), Nat.add_sub_cancel_left]
theorem nar_cV {c : Nat} (hc : c < 128) : narrow .char (.int (nI c)) = .int (nI c) := by
  have h := nar_char (z := nI c)
  rwa [(nar_c c hc).1] at h
section
variable {G : GA} {F : AH} {b bv cap : Nat} {T : List Int32}
set_option maxRecDepth 100000 in
set_option maxHeartbeats 2000000 in
theorem J5_appendI_ok {F0 : AH} (hB : BA G F0 b bv T cap) (hb : gN G ≤ b) (hb1 : b < F0.1) (v : Nat) (hv : v < 100) (hl : T.length + 2 ≤ 142) : AC G mJ5_append_c97b9 4 1 142 [.ref b, .int (nI v)] F0 (BW G b bv (T ++ wrN v) (some (.ref b)) F0) := by
  have hB0 := hB
  obtain ⟨ml, a, ⟨h0, h1⟩, ⟨g1, g2, g3, g4⟩, g5, g6, g7⟩ := hB
  have e5 : (T ++ wrN v).length = T.length + ssz v := by rw [List.length_append, wrN_len]
  have hs1 : ssz v = 1 ∨ ssz v = 2 := by unfold ssz; split <;> simp
  refine AC.of [some (.ref b), some (.int (nI v)), none, none] rfl (by decide) (Nat.le_of_ble_eq_true rfl) rfl ?_
  refine AF.aload_n dJ5_append_c97b9_0 rfl ?_
  refine AF.getfield dJ5_append_c97b9_1 fl_J5_79 (by assumption) rfl ?_
  refine AF.istore_n dJ5_append_c97b9_4 (by decide) ?_
  refine AF.iload_n dJ5_append_c97b9_5 rfl ?_
  refine AF.iload_n dJ5_append_c97b9_6 rfl ?_
  refine AF.s1 dJ5_append_c97b9_7 jv_J5_245 (J6_stringSize_ok v hv) rfl rfl (Nat.le_of_ble_eq_true rfl) (by decide) rfl ?_
  refine AF.iadd dJ5_append_c97b9_10 ?_
  rw [nI_add]
  refine AF.istore_n dJ5_append_c97b9_11 (by decide) ?_
  refine AF.aload_n dJ5_append_c97b9_12 rfl ?_
  refine AF.iload_n dJ5_append_c97b9_13 rfl ?_
  refine AF.callPV (bc := 0) (bs := 0) (mc' := 1) (ms' := 142) dJ5_append_c97b9_14 jv_J5_100 (J5_ensure_ok hB0 hb hb1 (T.length + ssz v) (by omega) (by omega)) h0 rfl rfl (Nat.le_of_ble_eq_true rfl) (by decide) rfl (fun E F9 h => nomatch h.1) (fun v9 F h => ?_)
  obtain ⟨h, bv', cap', hB', hq, hg1, hg2, hg3⟩ := h
  cases h
  clear h0 h1 g1 g2 g3 g4 g5 hB0
  obtain ⟨ml, a, ⟨h0, h1⟩, ⟨g1, g2, g3, g4⟩, g5, g8, g9⟩ := hB'
  refine AF.aload_n dJ5_append_c97b9_17 rfl ?_
  refine AF.callUA (mc' := 0) (ms' := 0) dJ5_append_c97b9_18 jv_J5_83 (J5_isLatin1_ok h0) h0 rfl rfl rfl (Nat.le_of_ble_eq_true rfl) (by decide) rfl (fun E F' h => AV.x h) (fun v' F' h => ?_)
  obtain ⟨h, rfl⟩ := h
  cases h
  refine AF.if_eq 37 dJ5_append_c97b9_21 (by decide) (fun c1 => ?_) (fun c1 => ?_)
  · exact absurd c1 (by decide)
  · refine AF.iload_n dJ5_append_c97b9_24 rfl ?_
    refine AF.iload_n dJ5_append_c97b9_25 rfl ?_
    refine AF.aload_n dJ5_append_c97b9_26 rfl ?_
    refine AF.getfield dJ5_append_c97b9_27 fl_J5_15 (by assumption) rfl ?_
    refine AF.sw dJ5_append_c97b9_30 jv_J5_248 (J6_getChars_ok v T.length hv h1 g8 (by omega) (by omega)) rfl rfl (Nat.le_of_ble_eq_true rfl) (by decide) rfl (fun E F9 h => nomatch h.1) (fun w F2 h => ?_)
    obtain ⟨h, e7, h7, o7⟩ := h
    cases h
    replace h0 := (o7 b (by omega)).trans h0
    have hz : F2.1 = F2.1 := rfl
    have hmk : ∀ x, (x < F0.1 ∧ ¬ x = b ∧ ¬ x = bv) → F2.2 x = F0.2 x := fun x hx => (o7 x (by omega)).trans (hg3 x hx.1 hx.2.1 hx.2.2)
    clear o7 h1
    refine AF.pop dJ5_append_c97b9_33 rfl ?_
    refine AF.goto 48 dJ5_append_c97b9_34 (by decide) ?_
    refine AF.aload_n dJ5_append_c97b9_48 rfl ?_
    refine AF.iload_n dJ5_append_c97b9_49 rfl ?_
    refine AF.putfieldF dJ5_append_c97b9_50 fp_J5_79 h0 (by omega) (Nat.le_of_ble_eq_true rfl) rfl rfl (Or.inr fq_7_3) ?_
    intro F e9 h9 o9
    replace h7 := (o9 (bv') (by omega)).trans h7
    replace h0 := h9
    replace hmk := fun q hq => (o9 q (by omega)).trans (hmk q hq)
    replace hz := e9.trans hz
    clear e9 h9 o9
    refine AF.aload_n dJ5_append_c97b9_53 rfl ?_
    rw [← e5] at h0
    obtain ⟨p1, p2, p3⟩ := pgN_ok (p := T.length) hv g3
    refine AF.areturn dJ5_append_c97b9_54 rfl (Or.inl ⟨_, rfl⟩) (Or.inr ⟨_, rfl⟩) ⟨rfl, bv', cap', ⟨ml, _, ⟨h0, h7⟩, ⟨by omega, by omega, p1, fun i hi => ?_⟩, by omega, by omega, by omega⟩, ⟨by omega, hg2, fun x x1 x2 x3 => hmk x ⟨x1, x2, x3⟩⟩⟩
    rw [e5] at hi
    by_cases e : i < T.length
    · rw [p2 i e, gd_apL e]; exact g4 i e
    · obtain ⟨j, rfl⟩ : ∃ j, i = T.length + j := ⟨i - T.length, by omega⟩
      rw [p3 j (by omega), gd_apR]
set_option maxRecDepth 100000 in
theorem J4_appendI_ok (hB : BA G F b bv T cap) (hb : gN G ≤ b) (hb1 : b < F.1) (v : Nat) (hv : v < 100) (hl : T.length + 2 ≤ 142) : AC G mJ4_append_bf812 5 1 142 [.ref b, .int (nI v)] F (BW G b bv (T ++ wrN v) (some (.ref b)) F) := by
  have hA := J5_appendI_ok hB hb hb1 v hv hl
  obtain ⟨ml, a, ⟨h0, h1⟩, -⟩ := hB
  refine AC.of [some (.ref b), some (.int (nI v))] rfl (by decide) (Nat.le_of_ble_eq_true rfl) rfl ?_
  refine AF.aload_n dJ4_append_bf812_0 rfl ?_
  refine AF.iload_n dJ4_append_bf812_1 rfl ?_
  refine AF.callSU (bc := 0) (bs := 0) (mc' := 1) (ms' := 142) dJ4_append_bf812_2 jv_J4_53 hA h0 rfl rfl (Nat.le_of_ble_eq_true rfl) (by decide) rfl (fun E F9 h => nomatch h.1) (fun v F' h => ?_)
  obtain ⟨h, hk⟩ := h
  cases h
  refine AF.pop dJ4_append_bf812_5 rfl ?_
  refine AF.aload_n dJ4_append_bf812_6 rfl ?_
  exact AF.areturn dJ4_append_bf812_7 rfl (Or.inl ⟨_, rfl⟩) (Or.inr ⟨_, rfl⟩) ⟨rfl, hk⟩
set_option maxRecDepth 100000 in
theorem J5_setLength_ok {F0 : AH} (hB : BA G F0 b bv T cap) (hb : gN G ≤ b) (hb1 : b < F0.1) : AC G mJ5_setLength_d00df 4 1 142 [.ref b, .int (nI 0)] F0 (BW G b bv [] none F0) := by
  have hB0 := hB
  obtain ⟨ml, a, ⟨h0, h1⟩, ⟨g1, g2, g3, g4⟩, g5, g6, g7⟩ := hB
  refine AC.of [some (.ref b), some (.int (nI 0))] rfl (by decide) (Nat.le_of_ble_eq_true rfl) rfl ?_
  refine AF.iload_n dJ5_setLength_d00df_0 rfl ?_
  refine AF.if_ge 13 dJ5_setLength_d00df_1 (by decide) (fun c1 => ?_) (fun c1 => ?_)
  · refine AF.aload_n dJ5_setLength_d00df_13 rfl ?_
    refine AF.iload_n dJ5_setLength_d00df_14 rfl ?_
    refine AF.callPV (bc := 0) (bs := 0) (mc' := 1) (ms' := 142) dJ5_setLength_d00df_15 jv_J5_100 (J5_ensure_ok hB0 hb hb1 0 (by omega) (by omega)) h0 rfl rfl (Nat.le_of_ble_eq_true rfl) (by decide) rfl (fun E F9 h => nomatch h.1) (fun v9 F h => ?_)
    obtain ⟨h, bv', cap', hB', hq, hg1, hg2, hg3⟩ := h
    cases h
    clear h0 h1 g1 g2 g3 g4 g5 hB0
    obtain ⟨ml, a, ⟨h0, h1⟩, ⟨g1, g2, g3, g4⟩, g5, g8, g9⟩ := hB'
    have hz : F.1 = F.1 := rfl
    have hmk : ∀ x, (x < F0.1 ∧ ¬ x = b ∧ ¬ x = bv) → F.2 x = F0.2 x := fun x hx => hg3 x hx.1 hx.2.1 hx.2.2
    refine AF.aload_n dJ5_setLength_d00df_18 rfl ?_
    refine AF.getfield dJ5_setLength_d00df_19 fl_J5_79 (by assumption) rfl ?_
    refine AF.iload_n dJ5_setLength_d00df_22 rfl ?_
    refine AF.icmp_ge 63 dJ5_setLength_d00df_23 (by decide) (fun c2 => ?_) (fun c2 => ?_)
    · refine AF.aload_n dJ5_setLength_d00df_63 rfl ?_
      refine AF.getfield dJ5_setLength_d00df_64 fl_J5_79 (by assumption) rfl ?_
      refine AF.iload_n dJ5_setLength_d00df_67 rfl ?_
      refine AF.icmp_le 76 dJ5_setLength_d00df_68 (by decide) (fun c3 => ?_) (fun c3 => ?_)
      · refine AF.aload_n dJ5_setLength_d00df_76 rfl ?_
        refine AF.iload_n dJ5_setLength_d00df_77 rfl ?_
        refine AF.putfieldF dJ5_setLength_d00df_78 fp_J5_79 h0 (by omega) (Nat.le_of_ble_eq_true rfl) rfl rfl (Or.inr fq_7_3) ?_
        intro F e9 h9 o9
        replace h1 := (o9 (bv') (by omega)).trans h1
        replace h0 := h9
        replace hmk := fun q hq => (o9 q (by omega)).trans (hmk q hq)
        replace hz := e9.trans hz
        clear e9 h9 o9
        exact AF.vreturn dJ5_setLength_d00df_81 rfl ⟨rfl, bv', cap', ⟨_, _, ⟨h0, h1⟩, ⟨Nat.zero_le _, by omega, g3, fun i hi => absurd hi (Nat.not_lt_zero _)⟩, by omega, by omega, by omega⟩, ⟨by omega, hg2, fun x x1 x2 x3 => hmk x ⟨x1, x2, x3⟩⟩⟩
      · refine AF.aload_n dJ5_setLength_d00df_71 rfl ?_
        refine AF.iconst (1) dJ5_setLength_d00df_72 (by decide) ?_
        refine AF.putfieldF dJ5_setLength_d00df_73 fp_J5_73 h0 (by omega) (Nat.le_of_ble_eq_true rfl) rfl rfl (Or.inr fq_7_2) ?_
        intro F e9 h9 o9
        replace h1 := (o9 (bv') (by omega)).trans h1
        replace h0 := h9
        replace hmk := fun q hq => (o9 q (by omega)).trans (hmk q hq)
        replace hz := e9.trans hz
        clear e9 h9 o9
        refine AF.aload_n dJ5_setLength_d00df_76 rfl ?_
        refine AF.iload_n dJ5_setLength_d00df_77 rfl ?_
        refine AF.putfieldF dJ5_setLength_d00df_78 fp_J5_79 h0 (by omega) (Nat.le_of_ble_eq_true rfl) rfl rfl (Or.inr fq_7_3) ?_
        intro F e9 h9 o9
        replace h1 := (o9 (bv') (by omega)).trans h1
        replace h0 := h9
        replace hmk := fun q hq => (o9 q (by omega)).trans (hmk q hq)
        replace hz := e9.trans hz
        clear e9 h9 o9
        exact AF.vreturn dJ5_setLength_d00df_81 rfl ⟨rfl, bv', cap', ⟨_, _, ⟨h0, h1⟩, ⟨Nat.zero_le _, by omega, g3, fun i hi => absurd hi (Nat.not_lt_zero _)⟩, by omega, by omega, by omega⟩, ⟨by omega, hg2, fun x x1 x2 x3 => hmk x ⟨x1, x2, x3⟩⟩⟩
    · exact absurd (by rw [nI_leI (by omega) (by omega)]; omega) c2
  · exact absurd (by decide) c1
set_option maxRecDepth 100000 in
theorem J4_setLength_ok (hB : BA G F b bv T cap) (hb : gN G ≤ b) (hb1 : b < F.1) : AC G mJ4_setLength_d00df 5 1 142 [.ref b, .int (nI 0)] F (BW G b bv [] none F) := by
  have hA := J5_setLength_ok hB hb hb1
  obtain ⟨ml, a, ⟨h0, h1⟩, -⟩ := hB
  refine AC.of [some (.ref b), some (.int (nI 0))] rfl (by decide) (Nat.le_of_ble_eq_true rfl) rfl ?_
  refine AF.aload_n dJ4_setLength_d00df_0 rfl ?_
  refine AF.iload_n dJ4_setLength_d00df_1 rfl ?_
  refine AF.callSU (bc := 0) (bs := 0) (mc' := 1) (ms' := 142) dJ4_setLength_d00df_2 jv_J4_333 hA h0 rfl rfl (Nat.le_of_ble_eq_true rfl) (by decide) rfl (fun E F9 h => nomatch h.1) (fun v F' h => ?_)
  obtain ⟨h, hk⟩ := h
  cases h
  exact AF.vreturn dJ4_setLength_d00df_5 rfl ⟨rfl, hk⟩
set_option maxRecDepth 100000 in
theorem J5_charAt_ok (hB : BA G F b bv T cap) (i c : Nat) (hi : i < T.length) (hc : c < 128) (hT : T.getD i 0 = nI c) : AC G mJ5_charAt_5068e 2 0 0 [.ref b, .int (nI i)] F (AV (some (.int (nI c))) F) := by
  obtain ⟨ml, a, ⟨h0, h1⟩, ⟨g1, g2, g3, g4⟩, g5, g6, g7⟩ := hB
  refine AC.of [some (.ref b), some (.int (nI i)), none, none, none] rfl (by decide) (Nat.le_of_ble_eq_true rfl) rfl ?_
  refine AF.aload_n dJ5_charAt_5068e_0 rfl ?_
  refine AF.getfield dJ5_charAt_5068e_1 fl_J5_22 (by assumption) rfl ?_
  refine AF.istore_n dJ5_charAt_5068e_4 (by decide) ?_
  refine AF.aload_n dJ5_charAt_5068e_5 rfl ?_
  refine AF.getfield dJ5_charAt_5068e_6 fl_J5_15 (by assumption) rfl ?_
  refine AF.astore_n dJ5_charAt_5068e_9 (by decide) ?_
  refine AF.aload_n dJ5_charAt_5068e_10 rfl ?_
  refine AF.getfield dJ5_charAt_5068e_11 fl_J5_79 (by assumption) rfl ?_
  refine AF.aload_n dJ5_charAt_5068e_14 rfl ?_
  refine AF.arraylength (t0 := 5) (nI cap) dJ5_charAt_5068e_15 (by assumption) rfl rfl ?_
  refine AF.iload_n dJ5_charAt_5068e_16 rfl ?_
  refine AF.ishr0 dJ5_charAt_5068e_17 ?_
  refine AF.min dJ5_charAt_5068e_18 km_J5_138 (Nat.le_of_ble_eq_true rfl) (by decide) ?_
  rw [nI_min (by omega) (by omega), Nat.min_eq_left (by omega)]
  refine AF.istore dJ5_charAt_5068e_21 (by decide) ?_
  refine AF.iload_n dJ5_charAt_5068e_23 rfl ?_
  refine AF.iload dJ5_charAt_5068e_24 rfl ?_
  refine AF.sw dJ5_charAt_5068e_26 jv_J5_144 (J0_checkIndex_ok hi (by omega)) rfl rfl (Nat.le_of_ble_eq_true rfl) (by decide) rfl (fun E F9 q => nomatch q.1) (fun w F9 q => ?_)
  obtain ⟨q, rfl⟩ := q
  cases q
  refine AF.iload_n dJ5_charAt_5068e_29 rfl ?_
  refine AF.if_ne 42 dJ5_charAt_5068e_30 (by decide) (fun c1 => ?_) (fun c1 => ?_)
  · exact absurd rfl c1
  · refine AF.aload_n dJ5_charAt_5068e_33 rfl ?_
    refine AF.iload_n dJ5_charAt_5068e_34 rfl ?_
    refine AF.baload (_) dJ5_charAt_5068e_35 (by assumption) rfl (by omega) (by omega) ?_
    rw [g4 i hi, hT]
    refine AF.sipush (255) dJ5_charAt_5068e_36 (by decide) ?_
    refine AF.iand dJ5_charAt_5068e_39 ?_
    refine AF.i2c dJ5_charAt_5068e_40 ?_
    refine AF.zreturn dJ5_charAt_5068e_41 rfl nar_char ⟨?_, rfl⟩
    rw [show (255 : Int32) = 255 from rfl, and255 _ hc]
set_option maxRecDepth 100000 in
theorem J4_charAt_ok (hB : BA G F b bv T cap) (i c : Nat) (hi : i < T.length) (hc : c < 128) (hT : T.getD i 0 = nI c) : AC G mJ4_charAt_5068e 3 0 0 [.ref b, .int (nI i)] F (AV (some (.int (nI c))) F) := by
  have hA := J5_charAt_ok hB i c hi hc hT
  obtain ⟨ml, a, ⟨h0, h1⟩, -⟩ := hB
  refine AC.of [some (.ref b), some (.int (nI i))] rfl (by decide) (Nat.le_of_ble_eq_true rfl) rfl ?_
  refine AF.aload_n dJ4_charAt_5068e_0 rfl ?_
  refine AF.iload_n dJ4_charAt_5068e_1 rfl ?_
  refine AF.callSU (mc' := 0) (ms' := 0) dJ4_charAt_5068e_2 jv_J4_329 hA h0 rfl rfl (Nat.le_of_ble_eq_true rfl) (by decide) rfl (fun E F' h => AV.x h) (fun v' F' h => ?_)
  obtain ⟨h, rfl⟩ := h
  cases h
  exact AF.zreturn dJ4_charAt_5068e_5 rfl (nar_cV hc) ⟨rfl, rfl⟩
set_option maxRecDepth 100000 in
theorem J5_init_ok (hF : F.2 b = some (.inr (7, [.null, .int 0, .int 0, .int 0]))) (ha : gN G ≤ b) (hz : F.1 = b + 1) : AC G mJ5_init_d00df 1 1 16 [.ref b, .int (nI 16)] F (fun r F' => r = .inl none ∧ BA G F' b (b + 1) [] 16 ∧ Mk b (b + 2) F F') := by
  refine AC.of [some (.ref b), some (.int (nI 16))] rfl (by decide) (Nat.le_of_ble_eq_true rfl) rfl (AF.ok fun hG => ?_)
  have s0 := hF
  have hmk : ∀ q, (q < b ∨ b + 2 ≤ q) → F.2 q = F.2 q := fun _ _ => rfl
  refine AF.aload_n dJ5_init_d00df_0 rfl ?_
  refine AF.objInit dJ5_init_d00df_1 ko_J5_3 (Nat.le_of_ble_eq_true rfl) (by decide) ?_
  refine AF.getstatic dJ5_init_d00df_4 jf_J5_18 hG.2.2.2.2.2.2.1.2.2.2.2.2.2.1 ?_
  refine AF.if_eq 25 dJ5_init_d00df_7 (by decide) (fun c1 => ?_) (fun c1 => ?_)
  · exact absurd c1 (by decide)
  · refine AF.aload_n dJ5_init_d00df_10 rfl ?_
    refine AF.iload_n dJ5_init_d00df_11 rfl ?_
    refine AF.newB (n := 16) (bc := 0) (bs := 0) dJ5_init_d00df_12 aw_byte (by first | rfl | decide) (by decide) ?_
    intro F e9 h9 o9
    rw [hz] at e9 h9 o9 ⊢
    replace hz : F.1 = b + 2 := e9
    replace s0 := (o9 (b) (by omega)).trans s0
    have h1 := h9
    replace hmk := fun q hq => (o9 q (by omega)).trans (hmk q hq)
    clear e9 h9 o9
    refine AF.putfieldF dJ5_init_d00df_14 fp_J5_15 s0 (by omega) (Nat.le_of_ble_eq_true rfl) rfl rfl (Or.inr fq_7_0) ?_
    intro F e9 h9 o9
    replace h1 := (o9 (b + 1) (by omega)).trans h1
    replace s0 := h9
    replace hmk := fun q hq => (o9 q (by omega)).trans (hmk q hq)
    replace hz := e9.trans hz
    clear e9 h9 o9
    refine AF.aload_n dJ5_init_d00df_17 rfl ?_
    refine AF.iconst (0) dJ5_init_d00df_18 (by decide) ?_
    refine AF.putfieldF dJ5_init_d00df_19 fp_J5_22 s0 (by omega) (Nat.le_of_ble_eq_true rfl) rfl rfl (Or.inr fq_7_1) ?_
    intro F e9 h9 o9
    replace h1 := (o9 (b + 1) (by omega)).trans h1
    replace s0 := h9
    replace hmk := fun q hq => (o9 q (by omega)).trans (hmk q hq)
    replace hz := e9.trans hz
    clear e9 h9 o9
    refine AF.goto 38 dJ5_init_d00df_22 (by decide) ?_
    exact AF.vreturn dJ5_init_d00df_38 rfl ⟨rfl, ⟨_, _, ⟨s0, h1⟩, ⟨Nat.zero_le _, Or.inl rfl, fun _ => (show vp_nar .byte 0 = 0 by decide), fun i hi => absurd hi (Nat.not_lt_zero _)⟩, by omega, by omega, by omega⟩, hz, hmk⟩
set_option maxRecDepth 100000 in
theorem J4_init_ok (hF : F.2 b = some (.inr (7, [.null, .int 0, .int 0, .int 0]))) (ha : gN G ≤ b) (hz : F.1 = b + 1) : AC G mJ4_init_da8c8 2 1 16 [.ref b] F (fun r F' => r = .inl none ∧ BA G F' b (b + 1) [] 16 ∧ Mk b (b + 2) F F') := by
  refine AC.of [some (.ref b)] rfl (by decide) (Nat.le_of_ble_eq_true rfl) rfl ?_
  refine AF.aload_n dJ4_init_da8c8_0 rfl ?_
  refine AF.bipush (nI 16) dJ4_init_da8c8_1 (by decide) ?_
  refine AF.callI (bc := 0) (bs := 0) (mc' := 1) (ms' := 16) dJ4_init_da8c8_3 jv_J4_1 (J5_init_ok hF ha hz) rfl rfl (Nat.le_of_ble_eq_true rfl) (by decide) rfl (fun E F9 q => nomatch q.1) (fun v F q => ?_)
  obtain ⟨q, hk⟩ := q
  cases q
  exact AF.vreturn dJ4_init_da8c8_6 rfl ⟨rfl, hk⟩
end

