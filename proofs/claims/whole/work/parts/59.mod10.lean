/-! The reference: quotients, output, input, undo, what is saved. -/
theorem gd_take {α : Type} {L : List α} {z : α} {k i : Nat} (h : i < k) : (L.take k).getD i z = L.getD i z := by
  rw [List.getD_eq_getElem?_getD, List.getD_eq_getElem?_getD, List.getElem?_take, if_pos h]
def unX (X : XS) : XS := if X.hs.length = 0 then X else (hget X.hs (X.hs.length - 1), X.sv, X.hs.take (X.hs.length - 1), X.tx, X.ou, X.er, X.fa)
def svX (X : XS) : XS := (X.sg, some X.sg, X.hs, X.tx, X.ou, X.er, X.fa)
def reX (X : XS) : XS := match X.sv with
  | none => X
  | some τ => (τ, X.sv, [], X.tx, X.ou, X.er, X.fa)
def fdX (X : XS) (c : Int32) : XS := if X.tx.length = 60 then X else (X.sg, X.sv, X.hs, X.tx ++ [c], X.ou, X.er, X.fa)
/-- a number's signs, a step's, a figure's first k steps' -/
def wrN (n : Nat) : List Int32 := if 9 < n then [nI (48 + n / 10), nI (48 + n % 10)] else [nI (48 + n % 10)]
def wrS (s : Sp) : List Int32 := wrN s.1 ++ [nI 58] ++ wrN s.2.1 ++ [nI 61] ++ wrN s.2.2
def wrF (L : List Sp) : Nat → List Int32
  | 0 => []
  | k + 1 => (wrF L k ++ (if 0 < k then [nI 32] else [])) ++ wrS (g3 L k)
def wrX (X : XS) (i : Nat) : XS := (X.sg, X.sv, X.hs, X.tx, wrF (fg X.sg.Fg i) (fg X.sg.Fg i).length, X.er, X.fa)
theorem wrN_le {n : Nat} : (wrN n).length ≤ 2 := by unfold wrN; split <;> simp
theorem wrS_le {s : Sp} : (wrS s).length ≤ 8 := by
  have h1 := wrN_le (n := s.1)
  have h2 := wrN_le (n := s.2.1)
  have h3 := wrN_le (n := s.2.2)
  simp only [wrS, List.length_append, List.length_cons, List.length_nil]
  omega
theorem wrF_le {L : List Sp} : ∀ k, (wrF L k).length + 1 ≤ 9 * k + 1
  | 0 => Nat.le_refl _
  | k + 1 => by
    have h1 := wrF_le (L := L) k
    have h2 := wrS_le (s := g3 L k)
    simp only [wrF, List.length_append]
    split <;> simp only [List.length_cons, List.length_nil] <;> omega
def MQd (G : GA) (m : Nat) (X : XS) (p : Nat) (an : UInt64) (F0 : AH) : AR → AH → Prop := fun r F' => r = .inl (some (.double (if p = 0 then an else FP.dconst0))) ∧ MX G F' m X (nI p) ∧ Fr m (m + 9) F0 F'
def MQf (G : GA) (m : Nat) (X : XS) (p : Nat) (an : UInt32) (F0 : AH) : AR → AH → Prop := fun r F' => r = .inl (some (.float (if p = 0 then an else FP.fconst0))) ∧ MX G F' m X (nI p) ∧ Fr m (m + 9) F0 F'
theorem nar_c : ∀ c, c < 128 → ((nI c).toUInt32 % 65536).toInt32 = nI c ∧ vp_nar .char (nI c) = nI c := by decide +kernel
theorem nar_char {z : Int32} : narrow .char (.int (z.toUInt32 % 65536).toInt32) = .int (z.toUInt32 % 65536).toInt32 := by
  have h := pk_vc z
  simp only [narrow, Value.int.injEq]
  rw [vp_nar_char] at h
  exact h
/-- the rows while the output is written -/
def MOw (G : GA) (F : AH) (m : Nat) (g f : Nat → Int32) (A : Nat → Nat → Int32) (T : List Int32) : Prop := ∃ a, (∀ i, i < T.length → a i = T.getD i 0) ∧ MA G F m (upd g 12 (nI T.length)) f (uA A 7 a)
section
variable {G : GA} {F : AH} {m : Nat} {g f : Nat → Int32} {A : Nat → Nat → Int32} {σ : Sg} {B : Nat} {X : XS} {th : Int32}
set_option maxRecDepth 100000 in
theorem X9_meanOpening_ok (hM : MX G F m X th) (ha : gN G ≤ m) (hI : SQ X.sg B) : AC G mX9_meanOpening 3 0 0 [.ref m] F (MQd G m X (if X.sg.J.length = 0 then 1 else 0) (FP.ddiv (FP.i2d (nI (dem X.sg.J))) (FP.i2d (nI X.sg.J.length))) F) := by
  obtain ⟨g, f, A, hM, hS, -, hr⟩ := hM
  have hn := hS.2.1.1
  have hd := dem_le hI.1.1 hn
  obtain ⟨h0, h1, hR⟩ := hM
  refine AC.of [some (.ref m)] rfl (by decide) (Nat.le_of_ble_eq_true rfl) rfl ?_
  have hfr : Fr m (m + 9) F F := Fr.rf
  refine AF.aload_n dX9_meanOpening_0 rfl ?_
  refine AF.aload_n dX9_meanOpening_1 rfl ?_
  refine AF.getfield dX9_meanOpening_2 fl_X9_7 (by assumption) rfl ?_
  refine AF.iconst (nI 0) dX9_meanOpening_5 (by decide) ?_
  refine AF.iaload (_) dX9_meanOpening_6 (by assumption) rfl (by omega) (by decide) ?_
  rw [hS.1.1]
  refine AF.if_ne 14 dX9_meanOpening_7 (by decide) (fun hc => ?_) (fun hc => ?_)
  · have hc : ¬ X.sg.J.length = 0 := fun q => hc (by rw [q]; rfl)
    rw [if_neg hc]
    have hq := flt_d X.sg.J.length (by omega) (dem X.sg.J) (by omega) (by omega)
    refine AF.iconst (nI 0) dX9_meanOpening_14 (by decide) ?_
    refine AF.putfieldF dX9_meanOpening_15 fp_X9_41 h0 (by omega) (Nat.le_of_ble_eq_true rfl) rfl rfl (Or.inr fq_6_0) ?_
    intro F e9 h9 o9
    replace h1 := (o9 (m + 1) (by omega)).trans h1
    replace hR := hR.kept (fun q h1 h2 => o9 q (by omega))
    replace h0 := h9
    replace hfr := hfr.step e9 (by omega) (by omega) o9
    clear e9 h9 o9
    refine AF.aload_n dX9_meanOpening_18 rfl ?_
    refine AF.getfield dX9_meanOpening_19 fl_X9_41 (by assumption) rfl ?_
    have hM2 : MA G F m (upd g 0 (nI 0)) f A := ⟨h0, h1, hR⟩
    refine AF.if_le 29 dX9_meanOpening_22 (by decide) (fun c2 => ?_) (fun c2 => ?_)
    · refine AF.aload_n dX9_meanOpening_29 rfl ?_
      refine AF.v1 dX9_meanOpening_30 kv_X9_64 ((X9_asked_ok hM2 hS)) (by assumption) rfl rfl rfl (Nat.le_of_ble_eq_true rfl) (by decide) rfl ?_
      refine AF.i2d dX9_meanOpening_33 ?_
      refine AF.aload_n dX9_meanOpening_34 rfl ?_
      refine AF.getfield dX9_meanOpening_35 fl_X9_7 (by assumption) rfl ?_
      refine AF.iconst (nI 0) dX9_meanOpening_38 (by decide) ?_
      refine AF.iaload (_) dX9_meanOpening_39 (by assumption) rfl (by omega) (by decide) ?_
      rw [hS.1.1]
      refine AF.i2d dX9_meanOpening_40 ?_
      refine AF.ddiv dX9_meanOpening_41 hq.1 ?_
      exact AF.dreturn dX9_meanOpening_42 rfl ⟨rfl, ⟨_, f, A, hM2, hS, rfl, hr⟩, hfr⟩
    · exact absurd (Int32.le_refl _) c2
  · rw [show (0 : Int32) = nI 0 from rfl, nI_eq (by omega) (by omega)] at hc
    rw [if_pos hc]
    refine AF.iconst (nI 1) dX9_meanOpening_10 (by decide) ?_
    refine AF.goto 15 dX9_meanOpening_11 (by decide) ?_
    refine AF.putfieldF dX9_meanOpening_15 fp_X9_41 h0 (by omega) (Nat.le_of_ble_eq_true rfl) rfl rfl (Or.inr fq_6_0) ?_
    intro F e9 h9 o9
    replace h1 := (o9 (m + 1) (by omega)).trans h1
    replace hR := hR.kept (fun q h1 h2 => o9 q (by omega))
    replace h0 := h9
    replace hfr := hfr.step e9 (by omega) (by omega) o9
    clear e9 h9 o9
    refine AF.aload_n dX9_meanOpening_18 rfl ?_
    refine AF.getfield dX9_meanOpening_19 fl_X9_41 (by assumption) rfl ?_
    have hM2 : MA G F m (upd g 0 (nI 1)) f A := ⟨h0, h1, hR⟩
    refine AF.if_le 29 dX9_meanOpening_22 (by decide) (fun c2 => ?_) (fun c2 => ?_)
    · exact absurd c2 (nI_nle (by omega) (by omega))
    · refine AF.dconst0 dX9_meanOpening_25 ?_
      refine AF.goto 42 dX9_meanOpening_26 (by decide) ?_
      exact AF.dreturn dX9_meanOpening_42 rfl ⟨rfl, ⟨_, f, A, hM2, hS, rfl, hr⟩, hfr⟩
set_option maxRecDepth 100000 in
theorem X9_supplyFraction_ok (hM : MX G F m X th) (ha : gN G ≤ m) (hI : SQ X.sg B) : AC G mX9_supplyFraction 3 0 0 [.ref m] F (MQf G m X (if dem X.sg.J = 0 then 1 else 0) (FP.fdiv (FP.i2f (nI (sup X.sg.J X.sg.cap))) (FP.i2f (nI (dem X.sg.J)))) F) := by
  obtain ⟨g, f, A, hM, hS, -, hr⟩ := hM
  have hn := hS.2.1.1
  have hd := dem_le hI.1.1 hn
  have hs := sup_le (J := X.sg.J) (cap := X.sg.cap)
  have hA0 := X9_asked_ok hM hS
  obtain ⟨h0, h1, hR⟩ := hM
  refine AC.of [some (.ref m)] rfl (by decide) (Nat.le_of_ble_eq_true rfl) rfl ?_
  have hfr : Fr m (m + 9) F F := Fr.rf
  refine AF.aload_n dX9_supplyFraction_0 rfl ?_
  refine AF.aload_n dX9_supplyFraction_1 rfl ?_
  refine AF.v1 dX9_supplyFraction_2 kv_X9_64 (hA0) (by assumption) rfl rfl rfl (Nat.le_of_ble_eq_true rfl) (by decide) rfl ?_
  refine AF.if_ne 12 dX9_supplyFraction_5 (by decide) (fun hc => ?_) (fun hc => ?_)
  · have hc : ¬ dem X.sg.J = 0 := fun q => hc (by rw [q]; rfl)
    rw [if_neg hc]
    have hq := flt_f (dem X.sg.J) (by omega) (sup X.sg.J X.sg.cap) (by omega) (by omega)
    refine AF.iconst (nI 0) dX9_supplyFraction_12 (by decide) ?_
    refine AF.putfieldF dX9_supplyFraction_13 fp_X9_41 h0 (by omega) (Nat.le_of_ble_eq_true rfl) rfl rfl (Or.inr fq_6_0) ?_
    intro F e9 h9 o9
    replace h1 := (o9 (m + 1) (by omega)).trans h1
    replace hR := hR.kept (fun q h1 h2 => o9 q (by omega))
    replace h0 := h9
    replace hfr := hfr.step e9 (by omega) (by omega) o9
    clear e9 h9 o9
    refine AF.aload_n dX9_supplyFraction_16 rfl ?_
    refine AF.getfield dX9_supplyFraction_17 fl_X9_41 (by assumption) rfl ?_
    have hM2 : MA G F m (upd g 0 (nI 0)) f A := ⟨h0, h1, hR⟩
    refine AF.if_le 27 dX9_supplyFraction_20 (by decide) (fun c2 => ?_) (fun c2 => ?_)
    · refine AF.aload_n dX9_supplyFraction_27 rfl ?_
      refine AF.v1 dX9_supplyFraction_28 kv_X9_118 ((X9_given_ok hM2 hS hI.1)) (by assumption) rfl rfl rfl (Nat.le_of_ble_eq_true rfl) (by decide) rfl ?_
      refine AF.i2f dX9_supplyFraction_31 ?_
      refine AF.aload_n dX9_supplyFraction_32 rfl ?_
      refine AF.v1 dX9_supplyFraction_33 kv_X9_64 ((X9_asked_ok hM2 hS)) (by assumption) rfl rfl rfl (Nat.le_of_ble_eq_true rfl) (by decide) rfl ?_
      refine AF.i2f dX9_supplyFraction_36 ?_
      refine AF.fdiv dX9_supplyFraction_37 hq.1 ?_
      exact AF.freturn dX9_supplyFraction_38 rfl ⟨rfl, ⟨_, f, A, hM2, hS, rfl, hr⟩, hfr⟩
    · exact absurd (Int32.le_refl _) c2
  · rw [show (0 : Int32) = nI 0 from rfl, nI_eq (by omega) (by omega)] at hc
    rw [if_pos hc]
    refine AF.iconst (nI 1) dX9_supplyFraction_8 (by decide) ?_
    refine AF.goto 13 dX9_supplyFraction_9 (by decide) ?_
    refine AF.putfieldF dX9_supplyFraction_13 fp_X9_41 h0 (by omega) (Nat.le_of_ble_eq_true rfl) rfl rfl (Or.inr fq_6_0) ?_
    intro F e9 h9 o9
    replace h1 := (o9 (m + 1) (by omega)).trans h1
    replace hR := hR.kept (fun q h1 h2 => o9 q (by omega))
    replace h0 := h9
    replace hfr := hfr.step e9 (by omega) (by omega) o9
    clear e9 h9 o9
    refine AF.aload_n dX9_supplyFraction_16 rfl ?_
    refine AF.getfield dX9_supplyFraction_17 fl_X9_41 (by assumption) rfl ?_
    have hM2 : MA G F m (upd g 0 (nI 1)) f A := ⟨h0, h1, hR⟩
    refine AF.if_le 27 dX9_supplyFraction_20 (by decide) (fun c2 => ?_) (fun c2 => ?_)
    · exact absurd c2 (nI_nle (by omega) (by omega))
    · refine AF.fconst0 dX9_supplyFraction_23 ?_
      refine AF.goto 38 dX9_supplyFraction_24 (by decide) ?_
      exact AF.freturn dX9_supplyFraction_38 rfl ⟨rfl, ⟨_, f, A, hM2, hS, rfl, hr⟩, hfr⟩
set_option maxRecDepth 100000 in
theorem X9_outputCharacter_ok (hM : MX G F m X th) (ha : gN G ≤ m) (hX : XI X B) (x : Int32) : AC G mX9_outputCharacter 2 0 0 [.ref m, .int x] F (MQq G m X (if hasB X.ou.length x = true then 0 else 1) (X.ou.getD (cl x) 0) F) := by
  obtain ⟨g, f, A, hM, hS, -, hr⟩ := hM
  have ho := hr.2.2.2.1
  obtain ⟨h0, h1, h2, h3, h4, h5, h6, h7, h8⟩ := hM
  refine AC.of [some (.ref m), some (.int x)] rfl (by decide) (Nat.le_of_ble_eq_true rfl) rfl ?_
  have hfr : Fr m (m + 9) F F := Fr.rf
  refine AF.aload_n dX9_outputCharacter_0 rfl ?_
  refine AF.iload_n dX9_outputCharacter_1 rfl ?_
  refine AF.iconst (0) dX9_outputCharacter_2 (by decide) ?_
  refine AF.aload_n dX9_outputCharacter_3 rfl ?_
  refine AF.getfield dX9_outputCharacter_4 fl_X9_199 (by assumption) rfl ?_
  rw [ho.1]
  refine AF.iconst (1) dX9_outputCharacter_7 (by decide) ?_
  refine AF.isub dX9_outputCharacter_8 ?_
  refine AF.s1 dX9_outputCharacter_9 kv_X9_57 ((X9_in_ok x 0 (nI X.ou.length - 1))) rfl rfl (Nat.le_of_ble_eq_true rfl) (by decide) rfl ?_
  rw [inB_has (by omega)]
  refine AF.if_eq 19 dX9_outputCharacter_12 (by decide) (fun c1 => ?_) (fun c1 => ?_)
  · have c1 := bI_z c1
    rw [c1]
    refine AF.iconst (nI 1) dX9_outputCharacter_19 (by decide) ?_
    refine AF.putfieldF dX9_outputCharacter_20 fp_X9_41 h0 (by omega) (Nat.le_of_ble_eq_true rfl) rfl rfl (Or.inr fq_6_0) ?_
    intro F e9 h9 o9
    replace h1 := (o9 (m + 1) (by omega)).trans h1
    replace h2 := (o9 (m + 2) (by omega)).trans h2
    replace h3 := (o9 (m + 3) (by omega)).trans h3
    replace h4 := (o9 (m + 4) (by omega)).trans h4
    replace h5 := (o9 (m + 5) (by omega)).trans h5
    replace h6 := (o9 (m + 6) (by omega)).trans h6
    replace h7 := (o9 (m + 7) (by omega)).trans h7
    replace h8 := (o9 (m + 8) (by omega)).trans h8
    replace h0 := h9
    replace hfr := hfr.step e9 (by omega) (by omega) o9
    clear e9 h9 o9
    refine AF.aload_n dX9_outputCharacter_23 rfl ?_
    refine AF.getfield dX9_outputCharacter_24 fl_X9_41 (by assumption) rfl ?_
    have hM2 : MA G F m (upd g 0 (nI 1)) f A := ⟨h0, h1, h2, h3, h4, h5, h6, h7, h8⟩
    refine AF.if_le 34 dX9_outputCharacter_27 (by decide) (fun c2 => ?_) (fun c2 => ?_)
    · exact absurd c2 (nI_nle (by omega) (by omega))
    · refine AF.iconst (nI 0) dX9_outputCharacter_30 (by decide) ?_
      refine AF.goto 41 dX9_outputCharacter_31 (by decide) ?_
      exact AF.zreturn dX9_outputCharacter_41 rfl rfl ⟨rfl, ⟨_, f, A, hM2, hS, rfl, hr⟩, hfr⟩
  · have c1 := bI_n c1
    rw [c1]
    obtain ⟨j, hj, rfl⟩ := hasB_nI (by omega) c1
    rw [cl_nI (by omega)]
    obtain ⟨c, hc, ec⟩ := hX.2.2.2.2.2.2 j hj
    refine AF.iconst (nI 0) dX9_outputCharacter_15 (by decide) ?_
    refine AF.goto 20 dX9_outputCharacter_16 (by decide) ?_
    refine AF.putfieldF dX9_outputCharacter_20 fp_X9_41 h0 (by omega) (Nat.le_of_ble_eq_true rfl) rfl rfl (Or.inr fq_6_0) ?_
    intro F e9 h9 o9
    replace h1 := (o9 (m + 1) (by omega)).trans h1
    replace h2 := (o9 (m + 2) (by omega)).trans h2
    replace h3 := (o9 (m + 3) (by omega)).trans h3
    replace h4 := (o9 (m + 4) (by omega)).trans h4
    replace h5 := (o9 (m + 5) (by omega)).trans h5
    replace h6 := (o9 (m + 6) (by omega)).trans h6
    replace h7 := (o9 (m + 7) (by omega)).trans h7
    replace h8 := (o9 (m + 8) (by omega)).trans h8
    replace h0 := h9
    replace hfr := hfr.step e9 (by omega) (by omega) o9
    clear e9 h9 o9
    refine AF.aload_n dX9_outputCharacter_23 rfl ?_
    refine AF.getfield dX9_outputCharacter_24 fl_X9_41 (by assumption) rfl ?_
    have hM2 : MA G F m (upd g 0 (nI 0)) f A := ⟨h0, h1, h2, h3, h4, h5, h6, h7, h8⟩
    refine AF.if_le 34 dX9_outputCharacter_27 (by decide) (fun c2 => ?_) (fun c2 => ?_)
    · refine AF.aload_n dX9_outputCharacter_34 rfl ?_
      refine AF.getfield dX9_outputCharacter_35 fl_X9_31 (by assumption) rfl ?_
      refine AF.iload_n dX9_outputCharacter_38 rfl ?_
      refine AF.iaload (_) dX9_outputCharacter_39 (by assumption) rfl (by omega) (by decide) ?_
      refine AF.i2c dX9_outputCharacter_40 ?_
      refine AF.zreturn dX9_outputCharacter_41 rfl nar_char ⟨?_, ⟨_, f, A, hM2, hS, rfl, hr⟩, hfr⟩
      rw [ho.2.2 j hj, ec, (nar_c c hc).1]; rfl
    · exact absurd (Int32.le_refl _) c2
set_option maxRecDepth 100000 in
theorem X9_feed_ok (hM : MX G F m X th) (ha : gN G ≤ m) (c : Int32) : AC G mX9_feed 0 0 0 [.ref m, .int c] F (MQq G m (fdX X c) (if X.tx.length = 60 then 1 else 0) (nI (X.tx.length + 1)) F) := by
  obtain ⟨g, f, A, hM, hS, -, hr⟩ := hM
  have ht := hr.2.2.1
  obtain ⟨h0, h1, h2, h3, h4, h5, h6, h7, h8⟩ := hM
  refine AC.of [some (.ref m), some (.int c)] rfl (by decide) (Nat.le_of_ble_eq_true rfl) rfl ?_
  have hfr : Fr m (m + 9) F F := Fr.rf
  unfold fdX
  refine AF.aload_n dX9_feed_0 rfl ?_
  refine AF.aload_n dX9_feed_1 rfl ?_
  refine AF.getfield dX9_feed_2 fl_X9_208 (by assumption) rfl ?_
  refine AF.bipush (nI 60) dX9_feed_5 (by decide) ?_
  rw [ht.1]
  refine AF.icmp_ne 14 dX9_feed_7 (by decide) (fun hc => ?_) (fun hc => ?_)
  · rw [nI_eq (by omega) (by omega)] at hc
    rw [if_neg hc, if_neg hc]
    refine AF.iconst (nI 0) dX9_feed_14 (by decide) ?_
    refine AF.putfieldF dX9_feed_15 fp_X9_41 h0 (by omega) (Nat.le_of_ble_eq_true rfl) rfl rfl (Or.inr fq_6_0) ?_
    intro F e9 h9 o9
    replace h1 := (o9 (m + 1) (by omega)).trans h1
    replace h2 := (o9 (m + 2) (by omega)).trans h2
    replace h3 := (o9 (m + 3) (by omega)).trans h3
    replace h4 := (o9 (m + 4) (by omega)).trans h4
    replace h5 := (o9 (m + 5) (by omega)).trans h5
    replace h6 := (o9 (m + 6) (by omega)).trans h6
    replace h7 := (o9 (m + 7) (by omega)).trans h7
    replace h8 := (o9 (m + 8) (by omega)).trans h8
    replace h0 := h9
    replace hfr := hfr.step e9 (by omega) (by omega) o9
    clear e9 h9 o9
    refine AF.aload_n dX9_feed_18 rfl ?_
    refine AF.getfield dX9_feed_19 fl_X9_41 (by assumption) rfl ?_
    refine AF.if_le 27 dX9_feed_22 (by decide) (fun c2 => ?_) (fun c2 => ?_)
    · refine AF.aload_n dX9_feed_27 rfl ?_
      refine AF.getfield dX9_feed_28 fl_X9_25 (by assumption) rfl ?_
      refine AF.aload_n dX9_feed_31 rfl ?_
      refine AF.getfield dX9_feed_32 fl_X9_208 (by assumption) rfl ?_
      rw [ht.1]
      refine AF.iload_n dX9_feed_35 rfl ?_
      refine AF.iastoreF (_) dX9_feed_36 h6 (by omega) rfl (by omega) (by decide) ?_
      intro F e9 h9 o9
      replace h0 := (o9 (m) (by omega)).trans h0
      replace h1 := (o9 (m + 1) (by omega)).trans h1
      replace h2 := (o9 (m + 2) (by omega)).trans h2
      replace h3 := (o9 (m + 3) (by omega)).trans h3
      replace h4 := (o9 (m + 4) (by omega)).trans h4
      replace h5 := (o9 (m + 5) (by omega)).trans h5
      replace h7 := (o9 (m + 7) (by omega)).trans h7
      replace h8 := (o9 (m + 8) (by omega)).trans h8
      replace h6 := h9
      replace hfr := hfr.step e9 (by omega) (by omega) o9
      clear e9 h9 o9
      refine AF.aload_n dX9_feed_37 rfl ?_
      refine AF.dup dX9_feed_38 rfl ?_
      refine AF.getfield dX9_feed_39 fl_X9_208 (by assumption) rfl ?_
      rw [ht.1]
      refine AF.iconst (nI 1) dX9_feed_42 (by decide) ?_
      refine AF.iadd dX9_feed_43 ?_
      rw [nI_add]
      refine AF.putfieldF dX9_feed_44 fp_X9_208 h0 (by omega) (Nat.le_of_ble_eq_true rfl) rfl rfl (Or.inr fq_6_11) ?_
      intro F e9 h9 o9
      replace h1 := (o9 (m + 1) (by omega)).trans h1
      replace h2 := (o9 (m + 2) (by omega)).trans h2
      replace h3 := (o9 (m + 3) (by omega)).trans h3
      replace h4 := (o9 (m + 4) (by omega)).trans h4
      replace h5 := (o9 (m + 5) (by omega)).trans h5
      replace h6 := (o9 (m + 6) (by omega)).trans h6
      replace h7 := (o9 (m + 7) (by omega)).trans h7
      replace h8 := (o9 (m + 8) (by omega)).trans h8
      replace h0 := h9
      replace hfr := hfr.step e9 (by omega) (by omega) o9
      clear e9 h9 o9
      refine AF.aload_n dX9_feed_47 rfl ?_
      refine AF.getfield dX9_feed_48 fl_X9_208 (by assumption) rfl ?_
      have hM2 : MA G F m (upd (upd g 0 (nI 0)) 11 (nI (X.tx.length + 1))) f (uA A 5 (upd (A 5) X.tx.length c)) := ⟨h0, h1, h2, h3, h4, h5, h6, h7, h8⟩
      have hl : (X.tx ++ [c]).length = X.tx.length + 1 := by simp
      refine AF.ireturn dX9_feed_51 rfl ⟨rfl, ⟨_, f, _, hM2, hS, rfl, hr.1, hr.2.1, ⟨?_, ?_, fun i hi => ?_⟩, hr.2.2.2⟩, hfr⟩
      · show nI (X.tx.length + 1) = nI (X.tx ++ [c]).length
        rw [hl]
      · show (X.tx ++ [c]).length ≤ 60
        rw [hl]; omega
      · have hi : i < (X.tx ++ [c]).length := hi
        rw [hl] at hi
        show upd (A 5) X.tx.length c i = (X.tx ++ [c]).getD i 0
        rw [gd_app]
        by_cases e : i = X.tx.length
        · rw [if_pos e, e, upd_s]
        · rw [if_neg e, upd_n e]; exact ht.2.2 i (by omega)
    · exact absurd (Int32.le_refl _) c2
  · rw [nI_eq (by omega) (by omega)] at hc
    rw [if_pos hc, if_pos hc]
    refine AF.iconst (nI 1) dX9_feed_10 (by decide) ?_
    refine AF.goto 15 dX9_feed_11 (by decide) ?_
    refine AF.putfieldF dX9_feed_15 fp_X9_41 h0 (by omega) (Nat.le_of_ble_eq_true rfl) rfl rfl (Or.inr fq_6_0) ?_
    intro F e9 h9 o9
    replace h1 := (o9 (m + 1) (by omega)).trans h1
    replace h2 := (o9 (m + 2) (by omega)).trans h2
    replace h3 := (o9 (m + 3) (by omega)).trans h3
    replace h4 := (o9 (m + 4) (by omega)).trans h4
    replace h5 := (o9 (m + 5) (by omega)).trans h5
    replace h6 := (o9 (m + 6) (by omega)).trans h6
    replace h7 := (o9 (m + 7) (by omega)).trans h7
    replace h8 := (o9 (m + 8) (by omega)).trans h8
    replace h0 := h9
    replace hfr := hfr.step e9 (by omega) (by omega) o9
    clear e9 h9 o9
    refine AF.aload_n dX9_feed_18 rfl ?_
    refine AF.getfield dX9_feed_19 fl_X9_41 (by assumption) rfl ?_
    have hM2 : MA G F m (upd g 0 (nI 1)) f A := ⟨h0, h1, h2, h3, h4, h5, h6, h7, h8⟩
    refine AF.if_le 27 dX9_feed_22 (by decide) (fun c2 => ?_) (fun c2 => ?_)
    · exact absurd c2 (nI_nle (by omega) (by omega))
    · refine AF.iconst (nI 0) dX9_feed_25 (by decide) ?_
      exact AF.ireturn dX9_feed_26 rfl ⟨rfl, ⟨_, f, A, hM2, hS, rfl, hr⟩, hfr⟩
set_option maxRecDepth 100000 in
theorem X9_undo_ok (hM : MX G F m X th) (ha : gN G ≤ m) : AC G mX9_undo 2 0 0 [.ref m] F (MQq G m (unX X) (if X.hs.length = 0 then 1 else 0) (nI (X.hs.length - 1)) F) := by
  obtain ⟨g, f, A, hM, hS, -, hr⟩ := hM
  have hk := hr.1.1
  have hl8 := hr.1.2.1
  obtain ⟨h0, h1, h2, h3, h4, h5, h6, h7, h8⟩ := hM
  refine AC.of [some (.ref m), none] rfl (by decide) (Nat.le_of_ble_eq_true rfl) rfl ?_
  have hfr : Fr m (m + 9) F F := Fr.rf
  have lp : ∀ n, X.hs.length = n + 1 → ∀ k j F1, j + k = 165 → MA G F1 m (upd (upd g 0 (nI 0)) 6 (nI n)) (cpU (fun q => A 3 (165 * n + q)) f j) A → Fr m (m + 9) F F1 → AF G mX9_undo 2 0 0 (MQq G m (hget X.hs n, X.sv, X.hs.take n, X.tx, X.ou, X.er, X.fa) 0 (nI n) F) F1 30 [some (.ref m), some (.int (nI j))] [] := by
    intro n hn k
    induction k with
    | zero =>
      intro j F1 hj hM hfr
      obtain rfl : j = 165 := by omega
      obtain ⟨h0, h1, h2, h3, h4, h5, h6, h7, h8⟩ := id hM
      refine AF.iload_n dX9_undo_30 rfl ?_
      refine AF.sipush (nI 165) dX9_undo_31 (by decide) ?_
      refine AF.icmp_ge 64 dX9_undo_34 (by decide) (fun hb => ?_) (fun hb => ?_)
      · refine AF.aload_n dX9_undo_64 rfl ?_
        refine AF.getfield dX9_undo_65 fl_X9_44 (by assumption) rfl ?_
        refine AF.ireturn dX9_undo_68 rfl ⟨rfl, ⟨_, _, A, hM, SR.cp (hr.1.2.2 n (by omega)), rfl, ⟨?_, ?_, fun i hi => ?_⟩, hr.2⟩, hfr⟩
        · show nI n = nI (X.hs.take n).length
          rw [List.length_take, Nat.min_eq_left (by omega)]
        · show (X.hs.take n).length ≤ 8
          rw [List.length_take]; omega
        · have hi : i < (X.hs.take n).length := hi
          rw [List.length_take] at hi
          show SR (hget (X.hs.take n) i) _
          rw [hget, gd_take (by omega)]
          exact hr.1.2.2 i (by omega)
      · exact absurd (Int32.le_refl _) hb
    | succ k ih =>
      intro j F1 hj hM hfr
      obtain ⟨h0, h1, h2, h3, h4, h5, h6, h7, h8⟩ := hM
      refine AF.iload_n dX9_undo_30 rfl ?_
      refine AF.sipush (nI 165) dX9_undo_31 (by decide) ?_
      refine AF.icmp_ge 64 dX9_undo_34 (by decide) (fun hb => ?_) (fun hb => ?_)
      · rw [nI_leI (by omega) (by omega)] at hb
        omega
      · refine AF.aload_n dX9_undo_37 rfl ?_
        refine AF.getfield dX9_undo_38 fl_X9_7 (by assumption) rfl ?_
        refine AF.iload_n dX9_undo_41 rfl ?_
        refine AF.aload_n dX9_undo_42 rfl ?_
        refine AF.getfield dX9_undo_43 fl_X9_19 (by assumption) rfl ?_
        refine AF.sipush (nI 165) dX9_undo_46 (by decide) ?_
        refine AF.aload_n dX9_undo_49 rfl ?_
        refine AF.getfield dX9_undo_50 fl_X9_44 (by assumption) rfl ?_
        rw [show upd (upd g 0 (nI 0)) 6 (nI n) 6 = nI n from rfl]
        refine AF.imul dX9_undo_53 ?_
        refine AF.iload_n dX9_undo_54 rfl ?_
        refine AF.iadd dX9_undo_55 ?_
        refine AF.iaload (165 * n + j) dX9_undo_56 (by assumption) (by first | rfl | exact nI_1 _ | (simp only [nI_add, pk_mul, nI_1]; exact congrArg nI (by omega)) | simp only [nI_add, pk_mul, nI_1]) (by omega) (by decide) ?_
        refine AF.iastoreF (j) dX9_undo_57 h1 (by omega) (by first | rfl | exact nI_1 _ | (simp only [nI_add, pk_mul, nI_1]; exact congrArg nI (by omega)) | simp only [nI_add, pk_mul, nI_1]) (by omega) (by decide) ?_
        intro F e9 h9 o9
        replace h0 := (o9 (m) (by omega)).trans h0
        replace h2 := (o9 (m + 2) (by omega)).trans h2
        replace h3 := (o9 (m + 3) (by omega)).trans h3
        replace h4 := (o9 (m + 4) (by omega)).trans h4
        replace h5 := (o9 (m + 5) (by omega)).trans h5
        replace h6 := (o9 (m + 6) (by omega)).trans h6
        replace h7 := (o9 (m + 7) (by omega)).trans h7
        replace h8 := (o9 (m + 8) (by omega)).trans h8
        replace h1 := h9
        replace hfr := hfr.step e9 (by omega) (by omega) o9
        clear e9 h9 o9
        rw [show upd (cpU (fun q => A 3 (165 * n + q)) f j) j (A 3 (165 * n + j)) = cpU (fun q => A 3 (165 * n + q)) f (j + 1) from cpU_step (f := fun q => A 3 (165 * n + q))] at h1
        refine AF.inc1 dX9_undo_58 rfl (by decide) ?_
        refine AF.goto 30 dX9_undo_61 (by decide) ?_
        exact ih (j + 1) F (by omega) ⟨h0, h1, h2, h3, h4, h5, h6, h7, h8⟩ hfr
  unfold unX
  refine AF.aload_n dX9_undo_0 rfl ?_
  refine AF.iconst (nI 0) dX9_undo_1 (by decide) ?_
  refine AF.putfieldF dX9_undo_2 fp_X9_41 h0 (by omega) (Nat.le_of_ble_eq_true rfl) rfl rfl (Or.inr fq_6_0) ?_
  intro F e9 h9 o9
  replace h1 := (o9 (m + 1) (by omega)).trans h1
  replace h2 := (o9 (m + 2) (by omega)).trans h2
  replace h3 := (o9 (m + 3) (by omega)).trans h3
  replace h4 := (o9 (m + 4) (by omega)).trans h4
  replace h5 := (o9 (m + 5) (by omega)).trans h5
  replace h6 := (o9 (m + 6) (by omega)).trans h6
  replace h7 := (o9 (m + 7) (by omega)).trans h7
  replace h8 := (o9 (m + 8) (by omega)).trans h8
  replace h0 := h9
  replace hfr := hfr.step e9 (by omega) (by omega) o9
  clear e9 h9 o9
  refine AF.aload_n dX9_undo_5 rfl ?_
  refine AF.getfield dX9_undo_6 fl_X9_44 (by assumption) rfl ?_
  rw [hk]
  by_cases hz : X.hs.length = 0
  · rw [hz, if_pos rfl, if_pos rfl]
    have hM2 : MA G F m (upd g 0 (nI 0)) f A := ⟨h0, h1, h2, h3, h4, h5, h6, h7, h8⟩
    refine AF.if_ne 18 dX9_undo_9 (by decide) (fun hc => ?_) (fun hc => ?_)
    · exact absurd rfl hc
    · refine AF.aload_n dX9_undo_12 rfl ?_
      refine AF.iconst (nI 1) dX9_undo_13 (by decide) ?_
      refine AF.vw dX9_undo_14 kv_X9_54 (X9_fails_ok hM2 ha (nI 1)) (by assumption) rfl rfl rfl (Nat.le_of_ble_eq_true rfl) (by decide) rfl (fun E F9 q => nomatch q.1) (fun v F q => ?_)
      obtain ⟨q, hM3, q3⟩ := q
      cases q
      exact AF.ireturn dX9_undo_17 rfl ⟨rfl, ⟨_, f, A, hM3, hS, rfl, hr⟩, hfr.trans q3 (Nat.le_refl _) (Nat.le_refl _)⟩
  · rw [if_neg hz, if_neg hz]
    obtain ⟨n, hn⟩ : ∃ n, X.hs.length = n + 1 := ⟨X.hs.length - 1, by omega⟩
    refine AF.if_ne 18 dX9_undo_9 (by decide) (fun hc => ?_) (fun hc => ?_)
    · refine AF.aload_n dX9_undo_18 rfl ?_
      refine AF.dup dX9_undo_19 rfl ?_
      refine AF.getfield dX9_undo_20 fl_X9_44 (by assumption) rfl ?_
      rw [hk, hn]
      refine AF.iconst (nI 1) dX9_undo_23 (by decide) ?_
      refine AF.isub dX9_undo_24 ?_
      rw [show nI (n + 1) - nI 1 = nI n from nI_pred n]
      refine AF.putfieldF dX9_undo_25 fp_X9_44 h0 (by omega) (Nat.le_of_ble_eq_true rfl) rfl rfl (Or.inr fq_6_6) ?_
      intro F e9 h9 o9
      replace h1 := (o9 (m + 1) (by omega)).trans h1
      replace h2 := (o9 (m + 2) (by omega)).trans h2
      replace h3 := (o9 (m + 3) (by omega)).trans h3
      replace h4 := (o9 (m + 4) (by omega)).trans h4
      replace h5 := (o9 (m + 5) (by omega)).trans h5
      replace h6 := (o9 (m + 6) (by omega)).trans h6
      replace h7 := (o9 (m + 7) (by omega)).trans h7
      replace h8 := (o9 (m + 8) (by omega)).trans h8
      replace h0 := h9
      replace hfr := hfr.step e9 (by omega) (by omega) o9
      clear e9 h9 o9
      refine AF.iconst (nI 0) dX9_undo_28 (by decide) ?_
      refine AF.istore_n dX9_undo_29 (by decide) ?_
      rw [show n + 1 - 1 = n from rfl]
      exact lp n hn 165 0 F (by omega) ⟨h0, by rw [cpU_0]; exact h1, h2, h3, h4, h5, h6, h7, h8⟩ hfr
    · exact absurd hc (nI_ne0 (by omega) (by omega))
set_option maxRecDepth 100000 in
theorem X9_save_ok (hM : MX G F m X th) (ha : gN G ≤ m) : AC G mX9_save 0 0 0 [.ref m] F (MQq G m (svX X) 0 (nI X.sg.J.length) F) := by
  obtain ⟨g, f, A, hM, hS, -, hr⟩ := hM
  obtain ⟨h0, h1, h2, h3, h4, h5, h6, h7, h8⟩ := hM
  refine AC.of [some (.ref m), none] rfl (by decide) (Nat.le_of_ble_eq_true rfl) rfl ?_
  have hfr : Fr m (m + 9) F F := Fr.rf
  have lp : ∀ k j F1, j + k = 165 → MA G F1 m (upd g 0 (nI 0)) f (uA A 2 (cpU f (A 2) j)) → Fr m (m + 9) F F1 → AF G mX9_save 0 0 0 (MQq G m (svX X) 0 (nI X.sg.J.length) F) F1 7 [some (.ref m), some (.int (nI j))] [] := by
    intro k
    induction k with
    | zero =>
      intro j F1 hj hM hfr
      obtain rfl : j = 165 := by omega
      obtain ⟨h0, h1, h2, h3, h4, h5, h6, h7, h8⟩ := hM
      refine AF.iload_n dX9_save_7 rfl ?_
      refine AF.sipush (nI 165) dX9_save_8 (by decide) ?_
      refine AF.icmp_ge 32 dX9_save_11 (by decide) (fun hb => ?_) (fun hb => ?_)
      · refine AF.aload_n dX9_save_32 rfl ?_
        refine AF.iconst (nI 1) dX9_save_33 (by decide) ?_
        refine AF.putfieldF dX9_save_34 fp_X9_283 h0 (by omega) (Nat.le_of_ble_eq_true rfl) rfl rfl (Or.inr fq_6_7) ?_
        intro F e9 h9 o9
        replace h1 := (o9 (m + 1) (by omega)).trans h1
        replace h2 := (o9 (m + 2) (by omega)).trans h2
        replace h3 := (o9 (m + 3) (by omega)).trans h3
        replace h4 := (o9 (m + 4) (by omega)).trans h4
        replace h5 := (o9 (m + 5) (by omega)).trans h5
        replace h6 := (o9 (m + 6) (by omega)).trans h6
        replace h7 := (o9 (m + 7) (by omega)).trans h7
        replace h8 := (o9 (m + 8) (by omega)).trans h8
        replace h0 := h9
        replace hfr := hfr.step e9 (by omega) (by omega) o9
        clear e9 h9 o9
        refine AF.aload_n dX9_save_37 rfl ?_
        refine AF.getfield dX9_save_38 fl_X9_7 (by assumption) rfl ?_
        refine AF.iconst (nI 0) dX9_save_41 (by decide) ?_
        refine AF.iaload (_) dX9_save_42 (by assumption) rfl (by omega) (by decide) ?_
        rw [hS.1.1]
        have hM2 : MA G F m (upd (upd g 0 (nI 0)) 7 (nI 1)) f (uA A 2 (cpU f (A 2) 165)) := ⟨h0, h1, h2, h3, h4, h5, h6, h7, h8⟩
        exact AF.ireturn dX9_save_43 rfl ⟨rfl, ⟨_, f, _, hM2, hS, rfl, hr.1, ⟨rfl, fun τ e => by cases e; exact hS.cp⟩, hr.2.2⟩, hfr⟩
      · exact absurd (Int32.le_refl _) hb
    | succ k ih =>
      intro j F1 hj hM hfr
      obtain ⟨h0, h1, h2, h3, h4, h5, h6, h7, h8⟩ := hM
      refine AF.iload_n dX9_save_7 rfl ?_
      refine AF.sipush (nI 165) dX9_save_8 (by decide) ?_
      refine AF.icmp_ge 32 dX9_save_11 (by decide) (fun hb => ?_) (fun hb => ?_)
      · rw [nI_leI (by omega) (by omega)] at hb
        omega
      · refine AF.aload_n dX9_save_14 rfl ?_
        refine AF.getfield dX9_save_15 fl_X9_16 (by assumption) rfl ?_
        refine AF.iload_n dX9_save_18 rfl ?_
        refine AF.aload_n dX9_save_19 rfl ?_
        refine AF.getfield dX9_save_20 fl_X9_7 (by assumption) rfl ?_
        refine AF.iload_n dX9_save_23 rfl ?_
        refine AF.iaload (_) dX9_save_24 (by assumption) rfl (by omega) (by decide) ?_
        refine AF.iastoreF (_) dX9_save_25 h3 (by omega) rfl (by omega) (by decide) ?_
        intro F e9 h9 o9
        replace h0 := (o9 (m) (by omega)).trans h0
        replace h1 := (o9 (m + 1) (by omega)).trans h1
        replace h2 := (o9 (m + 2) (by omega)).trans h2
        replace h4 := (o9 (m + 4) (by omega)).trans h4
        replace h5 := (o9 (m + 5) (by omega)).trans h5
        replace h6 := (o9 (m + 6) (by omega)).trans h6
        replace h7 := (o9 (m + 7) (by omega)).trans h7
        replace h8 := (o9 (m + 8) (by omega)).trans h8
        replace h3 := h9
        replace hfr := hfr.step e9 (by omega) (by omega) o9
        clear e9 h9 o9
        rw [show upd (uA A 2 (cpU f (A 2) j) 2) j (f j) = cpU f (A 2) (j + 1) from cpU_step] at h3
        refine AF.inc1 dX9_save_26 rfl (by decide) ?_
        refine AF.goto 7 dX9_save_29 (by decide) ?_
        exact ih (j + 1) F (by omega) ⟨h0, h1, h2, h3, h4, h5, h6, h7, h8⟩ hfr
  refine AF.aload_n dX9_save_0 rfl ?_
  refine AF.iconst (nI 0) dX9_save_1 (by decide) ?_
  refine AF.putfieldF dX9_save_2 fp_X9_41 h0 (by omega) (Nat.le_of_ble_eq_true rfl) rfl rfl (Or.inr fq_6_0) ?_
  intro F e9 h9 o9
  replace h1 := (o9 (m + 1) (by omega)).trans h1
  replace h2 := (o9 (m + 2) (by omega)).trans h2
  replace h3 := (o9 (m + 3) (by omega)).trans h3
  replace h4 := (o9 (m + 4) (by omega)).trans h4
  replace h5 := (o9 (m + 5) (by omega)).trans h5
  replace h6 := (o9 (m + 6) (by omega)).trans h6
  replace h7 := (o9 (m + 7) (by omega)).trans h7
  replace h8 := (o9 (m + 8) (by omega)).trans h8
  replace h0 := h9
  replace hfr := hfr.step e9 (by omega) (by omega) o9
  clear e9 h9 o9
  refine AF.iconst (nI 0) dX9_save_5 (by decide) ?_
  refine AF.istore_n dX9_save_6 (by decide) ?_
  exact lp 165 0 F (by omega) ⟨h0, h1, h2, by rw [cpU_0]; exact h3, h4, h5, h6, h7, h8⟩ hfr
set_option maxRecDepth 100000 in
theorem X9_restore_ok (hM : MX G F m X th) (ha : gN G ≤ m) : AC G mX9_restore 2 0 0 [.ref m] F (MQq G m (reX X) (if X.sv.isSome = true then 0 else 1) (nI (X.sv.getD s0).J.length) F) := by
  obtain ⟨g, f, A, hM, hS, -, hr⟩ := hM
  obtain ⟨h0, h1, h2, h3, h4, h5, h6, h7, h8⟩ := hM
  refine AC.of [some (.ref m), none] rfl (by decide) (Nat.le_of_ble_eq_true rfl) rfl ?_
  have hfr : Fr m (m + 9) F F := Fr.rf
  have hg7 := hr.2.1.1
  unfold reX
  refine AF.aload_n dX9_restore_0 rfl ?_
  refine AF.iconst (nI 0) dX9_restore_1 (by decide) ?_
  refine AF.putfieldF dX9_restore_2 fp_X9_41 h0 (by omega) (Nat.le_of_ble_eq_true rfl) rfl rfl (Or.inr fq_6_0) ?_
  intro F e9 h9 o9
  replace h1 := (o9 (m + 1) (by omega)).trans h1
  replace h2 := (o9 (m + 2) (by omega)).trans h2
  replace h3 := (o9 (m + 3) (by omega)).trans h3
  replace h4 := (o9 (m + 4) (by omega)).trans h4
  replace h5 := (o9 (m + 5) (by omega)).trans h5
  replace h6 := (o9 (m + 6) (by omega)).trans h6
  replace h7 := (o9 (m + 7) (by omega)).trans h7
  replace h8 := (o9 (m + 8) (by omega)).trans h8
  replace h0 := h9
  replace hfr := hfr.step e9 (by omega) (by omega) o9
  clear e9 h9 o9
  refine AF.aload_n dX9_restore_5 rfl ?_
  refine AF.getfield dX9_restore_6 fl_X9_283 (by assumption) rfl ?_
  rw [hg7]
  cases hsv : X.sv with
  | none =>
    have hM2 : MA G F m (upd g 0 (nI 0)) f A := ⟨h0, h1, h2, h3, h4, h5, h6, h7, h8⟩
    refine AF.if_ne 18 dX9_restore_9 (by decide) (fun hc => ?_) (fun hc => ?_)
    · exact absurd rfl hc
    · refine AF.aload_n dX9_restore_12 rfl ?_
      refine AF.iconst (nI 1) dX9_restore_13 (by decide) ?_
      refine AF.vw dX9_restore_14 kv_X9_54 (X9_fails_ok hM2 ha (nI 1)) (by assumption) rfl rfl rfl (Nat.le_of_ble_eq_true rfl) (by decide) rfl (fun E F9 q => nomatch q.1) (fun v F q => ?_)
      obtain ⟨q, hM3, q3⟩ := q
      cases q
      exact AF.ireturn dX9_restore_17 rfl ⟨rfl, ⟨_, f, A, hM3, hS, rfl, hr⟩, hfr.trans q3 (Nat.le_refl _) (Nat.le_refl _)⟩
  | some τ =>
    have hτ := hr.2.1.2 τ hsv
    have lp : ∀ F0 k j F1, j + k = 165 → MA G F1 m (upd g 0 (nI 0)) (cpU (A 2) f j) A → Fr m (m + 9) F0 F1 → AF G mX9_restore 2 0 0 (MQq G m (τ, some τ, [], X.tx, X.ou, X.er, X.fa) 0 (nI τ.J.length) F0) F1 20 [some (.ref m), some (.int (nI j))] [] := by
      intro F0 k
      induction k with
      | zero =>
        intro j F1 hj hM hfr
        obtain rfl : j = 165 := by omega
        have hS2 : SR τ (cpU (A 2) f 165) := hτ.cp
        obtain ⟨h0, h1, h2, h3, h4, h5, h6, h7, h8⟩ := hM
        refine AF.iload_n dX9_restore_20 rfl ?_
        refine AF.sipush (nI 165) dX9_restore_21 (by decide) ?_
        refine AF.icmp_ge 45 dX9_restore_24 (by decide) (fun hb => ?_) (fun hb => ?_)
        · refine AF.aload_n dX9_restore_45 rfl ?_
          refine AF.iconst (nI 0) dX9_restore_46 (by decide) ?_
          refine AF.putfieldF dX9_restore_47 fp_X9_44 h0 (by omega) (Nat.le_of_ble_eq_true rfl) rfl rfl (Or.inr fq_6_6) ?_
          intro F e9 h9 o9
          replace h1 := (o9 (m + 1) (by omega)).trans h1
          replace h2 := (o9 (m + 2) (by omega)).trans h2
          replace h3 := (o9 (m + 3) (by omega)).trans h3
          replace h4 := (o9 (m + 4) (by omega)).trans h4
          replace h5 := (o9 (m + 5) (by omega)).trans h5
          replace h6 := (o9 (m + 6) (by omega)).trans h6
          replace h7 := (o9 (m + 7) (by omega)).trans h7
          replace h8 := (o9 (m + 8) (by omega)).trans h8
          replace h0 := h9
          replace hfr := hfr.step e9 (by omega) (by omega) o9
          clear e9 h9 o9
          refine AF.aload_n dX9_restore_50 rfl ?_
          refine AF.getfield dX9_restore_51 fl_X9_7 (by assumption) rfl ?_
          refine AF.iconst (nI 0) dX9_restore_54 (by decide) ?_
          refine AF.iaload (_) dX9_restore_55 (by assumption) rfl (by omega) (by decide) ?_
          rw [hS2.1.1]
          have hM2 : MA G F m (upd (upd g 0 (nI 0)) 6 (nI 0)) (cpU (A 2) f 165) A := ⟨h0, h1, h2, h3, h4, h5, h6, h7, h8⟩
          refine AF.ireturn dX9_restore_56 rfl ⟨rfl, ⟨_, _, A, hM2, hS2, rfl, ⟨rfl, Nat.zero_le _, fun i hi => absurd hi (Nat.not_lt_zero _)⟩, ⟨?_, fun τ' e => by cases e; exact hτ⟩, hr.2.2⟩, hfr⟩
          show g 7 = bI true
          rw [hg7, hsv]; rfl
        · exact absurd (Int32.le_refl _) hb
      | succ k ih =>
        intro j F1 hj hM hfr
        obtain ⟨h0, h1, h2, h3, h4, h5, h6, h7, h8⟩ := hM
        refine AF.iload_n dX9_restore_20 rfl ?_
        refine AF.sipush (nI 165) dX9_restore_21 (by decide) ?_
        refine AF.icmp_ge 45 dX9_restore_24 (by decide) (fun hb => ?_) (fun hb => ?_)
        · rw [nI_leI (by omega) (by omega)] at hb
          omega
        · refine AF.aload_n dX9_restore_27 rfl ?_
          refine AF.getfield dX9_restore_28 fl_X9_7 (by assumption) rfl ?_
          refine AF.iload_n dX9_restore_31 rfl ?_
          refine AF.aload_n dX9_restore_32 rfl ?_
          refine AF.getfield dX9_restore_33 fl_X9_16 (by assumption) rfl ?_
          refine AF.iload_n dX9_restore_36 rfl ?_
          refine AF.iaload (_) dX9_restore_37 (by assumption) rfl (by omega) (by decide) ?_
          refine AF.iastoreF (_) dX9_restore_38 h1 (by omega) rfl (by omega) (by decide) ?_
          intro F e9 h9 o9
          replace h0 := (o9 (m) (by omega)).trans h0
          replace h2 := (o9 (m + 2) (by omega)).trans h2
          replace h3 := (o9 (m + 3) (by omega)).trans h3
          replace h4 := (o9 (m + 4) (by omega)).trans h4
          replace h5 := (o9 (m + 5) (by omega)).trans h5
          replace h6 := (o9 (m + 6) (by omega)).trans h6
          replace h7 := (o9 (m + 7) (by omega)).trans h7
          replace h8 := (o9 (m + 8) (by omega)).trans h8
          replace h1 := h9
          replace hfr := hfr.step e9 (by omega) (by omega) o9
          clear e9 h9 o9
          rw [cpU_step] at h1
          refine AF.inc1 dX9_restore_39 rfl (by decide) ?_
          refine AF.goto 20 dX9_restore_42 (by decide) ?_
          exact ih (j + 1) F (by omega) ⟨h0, h1, h2, h3, h4, h5, h6, h7, h8⟩ hfr
    refine AF.if_ne 18 dX9_restore_9 (by decide) (fun hc => ?_) (fun hc => ?_)
    · refine AF.iconst (nI 0) dX9_restore_18 (by decide) ?_
      refine AF.istore_n dX9_restore_19 (by decide) ?_
      exact lp _ 165 0 F (by omega) ⟨h0, by rw [cpU_0]; exact h1, h2, h3, h4, h5, h6, h7, h8⟩ hfr
    · exact absurd (show bI true = 0 from hc) (by decide)
set_option maxRecDepth 100000 in
theorem X9_writes_ok {T : List Int32} (hM : MOw G F m g f A T) (ha : gN G ≤ m) (hl : T.length < 90) (c : Int32) : AC G mX9_writes 0 0 0 [.ref m, .int c] F (fun r F' => r = .inl none ∧ MOw G F' m g f A (T ++ [c]) ∧ Fr m (m + 9) F F') := by
  obtain ⟨a, hT, h0, h1, h2, h3, h4, h5, h6, h7, h8⟩ := hM
  have e5 : (T ++ [c]).length = T.length + 1 := by simp
  refine AC.of [some (.ref m), some (.int c)] rfl (by decide) (Nat.le_of_ble_eq_true rfl) rfl ?_
  have hfr : Fr m (m + 9) F F := Fr.rf
  refine AF.aload_n dX9_writes_0 rfl ?_
  refine AF.getfield dX9_writes_1 fl_X9_31 (by assumption) rfl ?_
  refine AF.aload_n dX9_writes_4 rfl ?_
  refine AF.getfield dX9_writes_5 fl_X9_199 (by assumption) rfl ?_
  refine AF.iload_n dX9_writes_8 rfl ?_
  refine AF.iastoreF (T.length) dX9_writes_9 h8 (by omega) (by first | rfl | exact nI_1 _ | (simp only [nI_add, pk_mul, nI_1]; exact congrArg nI (by omega)) | simp only [nI_add, pk_mul, nI_1]) (by omega) (by decide) ?_
  intro F e9 h9 o9
  replace h0 := (o9 (m) (by omega)).trans h0
  replace h1 := (o9 (m + 1) (by omega)).trans h1
  replace h2 := (o9 (m + 2) (by omega)).trans h2
  replace h3 := (o9 (m + 3) (by omega)).trans h3
  replace h4 := (o9 (m + 4) (by omega)).trans h4
  replace h5 := (o9 (m + 5) (by omega)).trans h5
  replace h6 := (o9 (m + 6) (by omega)).trans h6
  replace h7 := (o9 (m + 7) (by omega)).trans h7
  replace h8 := h9
  replace hfr := hfr.step e9 (by omega) (by omega) o9
  clear e9 h9 o9
  refine AF.aload_n dX9_writes_10 rfl ?_
  refine AF.dup dX9_writes_11 rfl ?_
  refine AF.getfield dX9_writes_12 fl_X9_199 (by assumption) rfl ?_
  rw [show upd g 12 (nI T.length) 12 = nI T.length from rfl]
  refine AF.iconst (nI 1) dX9_writes_15 (by decide) ?_
  refine AF.iadd dX9_writes_16 ?_
  rw [nI_add]
  refine AF.putfieldF dX9_writes_17 fp_X9_199 h0 (by omega) (Nat.le_of_ble_eq_true rfl) rfl rfl (Or.inr fq_6_12) ?_
  intro F e9 h9 o9
  replace h1 := (o9 (m + 1) (by omega)).trans h1
  replace h2 := (o9 (m + 2) (by omega)).trans h2
  replace h3 := (o9 (m + 3) (by omega)).trans h3
  replace h4 := (o9 (m + 4) (by omega)).trans h4
  replace h5 := (o9 (m + 5) (by omega)).trans h5
  replace h6 := (o9 (m + 6) (by omega)).trans h6
  replace h7 := (o9 (m + 7) (by omega)).trans h7
  replace h8 := (o9 (m + 8) (by omega)).trans h8
  replace h0 := h9
  replace hfr := hfr.step e9 (by omega) (by omega) o9
  clear e9 h9 o9
  refine AF.vreturn dX9_writes_20 rfl ⟨rfl, ⟨upd a T.length c, fun i hi => ?_, ?_⟩, hfr⟩
  · rw [e5] at hi
    rw [gd_app]
    by_cases e : i = T.length
    · rw [if_pos e, e, upd_s]
    · rw [if_neg e, upd_n e]; exact hT i (by omega)
  · rw [e5]
    exact ⟨h0, h1, h2, h3, h4, h5, h6, h7, h8⟩
set_option maxRecDepth 100000 in
theorem X9_writesNumber_ok {T : List Int32} (hM : MOw G F m g f A T) (ha : gN G ≤ m) (hl : T.length + 2 ≤ 90) (n : Nat) (hn : n < 100) : AC G mX9_writesNumber 1 0 0 [.ref m, .int (nI n)] F (fun r F' => r = .inl none ∧ MOw G F' m g f A (T ++ wrN n) ∧ Fr m (m + 9) F F') := by
  have hM0 := hM
  obtain ⟨a, hT, h0, h1, hR⟩ := hM
  refine AC.of [some (.ref m), some (.int (nI n))] rfl (by decide) (Nat.le_of_ble_eq_true rfl) rfl ?_
  have hrem : nI n - nI (n / 10) * nI 10 = nI (n % 10) := by
    rw [pk_mul, pk_sub (by omega)]
    exact congrArg nI (by omega)
  unfold wrN
  refine AF.iload_n dX9_writesNumber_0 rfl ?_
  refine AF.bipush (nI 9) dX9_writesNumber_1 (by decide) ?_
  refine AF.icmp_le 17 dX9_writesNumber_3 (by decide) (fun hc => ?_) (fun hc => ?_)
  · rw [nI_leI (by omega) (by omega)] at hc
    rw [if_neg (by omega)]
    refine AF.aload_n dX9_writesNumber_17 rfl ?_
    refine AF.bipush (nI 48) dX9_writesNumber_18 (by decide) ?_
    refine AF.iload_n dX9_writesNumber_20 rfl ?_
    refine AF.bipush (nI 10) dX9_writesNumber_21 (by decide) ?_
    refine AF.irem dX9_writesNumber_23 (nI_ne0 (by omega) (by omega)) ?_
    rw [pk_div (by omega) (by omega) (by omega), hrem]
    refine AF.iadd dX9_writesNumber_24 ?_
    rw [nI_add]
    refine AF.vw dX9_writesNumber_25 kv_X9_202 (X9_writes_ok hM0 ha (by omega) (nI (48 + n % 10))) (by assumption) rfl rfl rfl (Nat.le_of_ble_eq_true rfl) (by decide) rfl (fun E F9 q => nomatch q.1) (fun v F q => ?_)
    obtain ⟨q, hM2, q2⟩ := q
    cases q
    exact AF.vreturn dX9_writesNumber_28 rfl ⟨rfl, hM2, q2⟩
  · rw [nI_leI (by omega) (by omega)] at hc
    rw [if_pos (by omega)]
    refine AF.aload_n dX9_writesNumber_6 rfl ?_
    refine AF.bipush (nI 48) dX9_writesNumber_7 (by decide) ?_
    refine AF.iload_n dX9_writesNumber_9 rfl ?_
    refine AF.bipush (nI 10) dX9_writesNumber_10 (by decide) ?_
    refine AF.idiv dX9_writesNumber_12 (nI_ne0 (by omega) (by omega)) ?_
    rw [pk_div (by omega) (by omega) (by omega)]
    refine AF.iadd dX9_writesNumber_13 ?_
    rw [nI_add]
    refine AF.vw dX9_writesNumber_14 kv_X9_202 (X9_writes_ok hM0 ha (by omega) (nI (48 + n / 10))) (by assumption) rfl rfl rfl (Nat.le_of_ble_eq_true rfl) (by decide) rfl (fun E F9 q => nomatch q.1) (fun v F q => ?_)
    obtain ⟨q, hM2, q2⟩ := q
    cases q
    have hM3 := hM2
    obtain ⟨a, hT, h0, h1, hR⟩ := hM2
    refine AF.aload_n dX9_writesNumber_17 rfl ?_
    refine AF.bipush (nI 48) dX9_writesNumber_18 (by decide) ?_
    refine AF.iload_n dX9_writesNumber_20 rfl ?_
    refine AF.bipush (nI 10) dX9_writesNumber_21 (by decide) ?_
    refine AF.irem dX9_writesNumber_23 (nI_ne0 (by omega) (by omega)) ?_
    rw [pk_div (by omega) (by omega) (by omega), hrem]
    refine AF.iadd dX9_writesNumber_24 ?_
    rw [nI_add]
    refine AF.vw dX9_writesNumber_25 kv_X9_202 (X9_writes_ok hM3 ha (by rw [List.length_append, List.length_singleton]; omega) (nI (48 + n % 10))) (by assumption) rfl rfl rfl (Nat.le_of_ble_eq_true rfl) (by decide) rfl (fun E F9 q => nomatch q.1) (fun v F q => ?_)
    obtain ⟨q, hM4, q4⟩ := q
    cases q
    refine AF.vreturn dX9_writesNumber_28 rfl ⟨rfl, ?_, q2.trans q4 (Nat.le_refl _) (Nat.le_refl _)⟩
    rw [List.append_assoc] at hM4
    exact hM4
set_option maxRecDepth 100000 in
set_option maxHeartbeats 4000000 in
theorem X9_writeFigure_ok {F0 : AH} (hM : MX G F0 m X th) (ha : gN G ≤ m) (hI : SQ X.sg B) (x : Int32) : AC G mX9_writeFigure 3 0 0 [.ref m, .int x] F0 (MQq G m (if hasB X.sg.Fg.length x = true then wrX X (cl x) else X) (if hasB X.sg.Fg.length x = true then 0 else 1) (nI (wrF (fg X.sg.Fg (cl x)) (fg X.sg.Fg (cl x)).length).length) F0) := by
  obtain ⟨g, f, A, hM, hS, -, hr⟩ := hM
  have hT := X9_isFigure_ok hM hS x
  have hn := hS.2.2.1.1
  obtain ⟨h0, h1, hR⟩ := hM
  refine AC.of [some (.ref m), some (.int x), none] rfl (by decide) (Nat.le_of_ble_eq_true rfl) rfl ?_
  have hfr : Fr m (m + 9) F0 F0 := Fr.rf
  refine AF.aload_n dX9_writeFigure_0 rfl ?_
  refine AF.aload_n dX9_writeFigure_1 rfl ?_
  refine AF.iload_n dX9_writeFigure_2 rfl ?_
  refine AF.v1 dX9_writeFigure_3 kv_X9_101 (hT) (by assumption) rfl rfl rfl (Nat.le_of_ble_eq_true rfl) (by decide) rfl ?_
  refine AF.if_eq 13 dX9_writeFigure_6 (by decide) (fun c1 => ?_) (fun c1 => ?_)
  · have c1 := bI_z c1
    rw [c1]
    refine AF.iconst (nI 1) dX9_writeFigure_13 (by decide) ?_
    refine AF.putfieldF dX9_writeFigure_14 fp_X9_41 h0 (by omega) (Nat.le_of_ble_eq_true rfl) rfl rfl (Or.inr fq_6_0) ?_
    intro F e9 h9 o9
    replace h1 := (o9 (m + 1) (by omega)).trans h1
    replace hR := hR.kept (fun q h1 h2 => o9 q (by omega))
    replace h0 := h9
    replace hfr := hfr.step e9 (by omega) (by omega) o9
    clear e9 h9 o9
    refine AF.aload_n dX9_writeFigure_17 rfl ?_
    refine AF.getfield dX9_writeFigure_18 fl_X9_41 (by assumption) rfl ?_
    have hM2 : MA G F m (upd g 0 (nI 1)) f A := ⟨h0, h1, hR⟩
    refine AF.if_le 26 dX9_writeFigure_21 (by decide) (fun c2 => ?_) (fun c2 => ?_)
    · exact absurd c2 (nI_nle (by omega) (by omega))
    · refine AF.iconst (nI 0) dX9_writeFigure_24 (by decide) ?_
      exact AF.ireturn dX9_writeFigure_25 rfl ⟨rfl, ⟨_, f, A, hM2, hS, rfl, hr⟩, hfr⟩
  · have c1 := bI_n c1
    rw [c1, if_pos rfl, if_pos rfl]
    obtain ⟨i, hi, rfl⟩ := hasB_nI (by omega) c1
    rw [cl_nI (by omega)]
    obtain ⟨h8, hsc, hrow⟩ := hS.2.2.1.2 i hi
    have hFI := hI.1.2.2.1 i
    have hj10 := hS.2.1.1
    have hln : ∀ k, k ≤ 8 → (wrF (fg X.sg.Fg i) k).length ≤ 72 := fun k hk => by have := wrF_le (L := fg X.sg.Fg i) k; omega
    have loop : ∀ k j F1, j + k = (fg X.sg.Fg i).length → MOw G F1 m (upd g 0 (nI 0)) f A (wrF (fg X.sg.Fg i) j) → Fr m (m + 9) F0 F1 → AF G mX9_writeFigure 3 0 0 (MQq G m (wrX X i) 0 (nI (wrF (fg X.sg.Fg i) (fg X.sg.Fg i).length).length) F0) F1 33 [some (.ref m), some (.int (nI i)), some (.int (nI j))] [] := by
      intro k
      induction k with
      | zero =>
        intro j F1 hj hM hfr
        obtain ⟨a, hT, hM2⟩ := hM
        rw [show j = (fg X.sg.Fg i).length by omega] at hT hM2 ⊢
        have hV := X9_steps_ok hM2 i (by omega)
        rw [hsc] at hV
        obtain ⟨h0, h1, hR⟩ := id hM2
        refine AF.iload_n dX9_writeFigure_33 rfl ?_
        refine AF.aload_n dX9_writeFigure_34 rfl ?_
        refine AF.iload_n dX9_writeFigure_35 rfl ?_
        refine AF.v1 dX9_writeFigure_36 kv_X9_77 (hV) (by assumption) rfl rfl rfl (Nat.le_of_ble_eq_true rfl) (by decide) rfl ?_
        refine AF.icmp_ge 103 dX9_writeFigure_39 (by decide) (fun hb => ?_) (fun hb => ?_)
        · refine AF.aload_n dX9_writeFigure_103 rfl ?_
          refine AF.getfield dX9_writeFigure_104 fl_X9_199 (by assumption) rfl ?_
          exact AF.ireturn dX9_writeFigure_107 rfl ⟨rfl, ⟨_, f, _, hM2, hS, rfl, hr.1, hr.2.1, hr.2.2.1, ⟨rfl, Nat.le_trans (hln _ h8) (by decide), hT⟩, hr.2.2.2.2⟩, hfr⟩
        · exact absurd (Int32.le_refl _) hb
      | succ k ih =>
        intro j F1 hj hM hfr
        have hjl : j < (fg X.sg.Fg i).length := by omega
        obtain ⟨q1, q2, q3⟩ := hrow j hjl
        obtain ⟨w1, w2, w3⟩ := hFI j hjl
        have hlj := hln j (by omega)
        have hA : ∀ F1 g1 A1, MA G F1 m g1 f A1 → AC G mX9_at 0 0 0 [.ref m, .int (nI i), .int (nI j), .int (nI 0)] F1 (AV (some (.int (nI (g3 (fg X.sg.Fg i) j).1))) F1) ∧ AC G mX9_at 0 0 0 [.ref m, .int (nI i), .int (nI j), .int (nI 1)] F1 (AV (some (.int (nI (g3 (fg X.sg.Fg i) j).2.1))) F1) ∧ AC G mX9_at 0 0 0 [.ref m, .int (nI i), .int (nI j), .int (nI 2)] F1 (AV (some (.int (nI (g3 (fg X.sg.Fg i) j).2.2))) F1) := fun F1 g1 A1 h => by
          have a0 := X9_at_ok h i j 0 (by omega) (by omega) (by omega)
          have a1 := X9_at_ok h i j 1 (by omega) (by omega) (by omega)
          have a2 := X9_at_ok h i j 2 (by omega) (by omega) (by omega)
          rw [Nat.add_zero, q1] at a0
          rw [q2] at a1
          rw [q3] at a2
          exact ⟨a0, a1, a2⟩
        have body : ∀ F1 T, T = wrF (fg X.sg.Fg i) j ++ (if 0 < j then [nI 32] else []) → T.length ≤ 73 → MOw G F1 m (upd g 0 (nI 0)) f A T → Fr m (m + 9) F0 F1 → AF G mX9_writeFigure 3 0 0 (MQq G m (wrX X i) 0 (nI (wrF (fg X.sg.Fg i) (fg X.sg.Fg i).length).length) F0) F1 52 [some (.ref m), some (.int (nI i)), some (.int (nI j))] [] := by
          intro F1 T eT hTl hM hfr
          have b1 := wrN_le (n := (g3 (fg X.sg.Fg i) j).1)
          have b2 := wrN_le (n := (g3 (fg X.sg.Fg i) j).2.1)
          have b3 := wrN_le (n := (g3 (fg X.sg.Fg i) j).2.2)
          obtain ⟨a, -, hM2⟩ := id hM
          have hA1 := (hA _ _ _ hM2).1
          obtain ⟨h0, h1, hR⟩ := hM2
          refine AF.aload_n dX9_writeFigure_52 rfl ?_
          refine AF.aload_n dX9_writeFigure_53 rfl ?_
          refine AF.iload_n dX9_writeFigure_54 rfl ?_
          refine AF.iload_n dX9_writeFigure_55 rfl ?_
          refine AF.iconst (nI 0) dX9_writeFigure_56 (by decide) ?_
          refine AF.v1 dX9_writeFigure_57 kv_X9_80 (hA1) (by assumption) rfl rfl rfl (Nat.le_of_ble_eq_true rfl) (by decide) rfl ?_
          refine AF.vw dX9_writeFigure_60 kv_X9_205 (X9_writesNumber_ok hM ha (by omega) _ (by omega)) (by assumption) rfl rfl rfl (Nat.le_of_ble_eq_true rfl) (by decide) rfl (fun E F9 q => nomatch q.1) (fun v F q => ?_)
          obtain ⟨q, hM3, r1⟩ := q
          cases q
          obtain ⟨a, -, hM2⟩ := id hM3
          obtain ⟨h0, h1, hR⟩ := hM2
          refine AF.aload_n dX9_writeFigure_63 rfl ?_
          refine AF.bipush (nI 58) dX9_writeFigure_64 (by decide) ?_
          refine AF.vw dX9_writeFigure_66 kv_X9_202 (X9_writes_ok hM3 ha (by simp only [List.length_append]; omega) (nI 58)) (by assumption) rfl rfl rfl (Nat.le_of_ble_eq_true rfl) (by decide) rfl (fun E F9 q => nomatch q.1) (fun v F q => ?_)
          obtain ⟨q, hM4, r2⟩ := q
          cases q
          obtain ⟨a, -, hM2⟩ := id hM4
          have hA1 := (hA _ _ _ hM2).2.1
          obtain ⟨h0, h1, hR⟩ := hM2
          refine AF.aload_n dX9_writeFigure_69 rfl ?_
          refine AF.aload_n dX9_writeFigure_70 rfl ?_
          refine AF.iload_n dX9_writeFigure_71 rfl ?_
          refine AF.iload_n dX9_writeFigure_72 rfl ?_
          refine AF.iconst (nI 1) dX9_writeFigure_73 (by decide) ?_
          refine AF.v1 dX9_writeFigure_74 kv_X9_80 (hA1) (by assumption) rfl rfl rfl (Nat.le_of_ble_eq_true rfl) (by decide) rfl ?_
          refine AF.vw dX9_writeFigure_77 kv_X9_205 (X9_writesNumber_ok hM4 ha (by simp only [List.length_append, List.length_cons, List.length_nil]; omega) _ (by omega)) (by assumption) rfl rfl rfl (Nat.le_of_ble_eq_true rfl) (by decide) rfl (fun E F9 q => nomatch q.1) (fun v F q => ?_)
          obtain ⟨q, hM5, r3⟩ := q
          cases q
          obtain ⟨a, -, hM2⟩ := id hM5
          obtain ⟨h0, h1, hR⟩ := hM2
          refine AF.aload_n dX9_writeFigure_80 rfl ?_
          refine AF.bipush (nI 61) dX9_writeFigure_81 (by decide) ?_
          refine AF.vw dX9_writeFigure_83 kv_X9_202 (X9_writes_ok hM5 ha (by simp only [List.length_append, List.length_cons, List.length_nil]; omega) (nI 61)) (by assumption) rfl rfl rfl (Nat.le_of_ble_eq_true rfl) (by decide) rfl (fun E F9 q => nomatch q.1) (fun v F q => ?_)
          obtain ⟨q, hM6, r4⟩ := q
          cases q
          obtain ⟨a, -, hM2⟩ := id hM6
          have hA1 := (hA _ _ _ hM2).2.2
          obtain ⟨h0, h1, hR⟩ := hM2
          refine AF.aload_n dX9_writeFigure_86 rfl ?_
          refine AF.aload_n dX9_writeFigure_87 rfl ?_
          refine AF.iload_n dX9_writeFigure_88 rfl ?_
          refine AF.iload_n dX9_writeFigure_89 rfl ?_
          refine AF.iconst (nI 2) dX9_writeFigure_90 (by decide) ?_
          refine AF.v1 dX9_writeFigure_91 kv_X9_80 (hA1) (by assumption) rfl rfl rfl (Nat.le_of_ble_eq_true rfl) (by decide) rfl ?_
          refine AF.vw dX9_writeFigure_94 kv_X9_205 (X9_writesNumber_ok hM6 ha (by simp only [List.length_append, List.length_cons, List.length_nil]; omega) _ (by omega)) (by assumption) rfl rfl rfl (Nat.le_of_ble_eq_true rfl) (by decide) rfl (fun E F9 q => nomatch q.1) (fun v F q => ?_)
          obtain ⟨q, hM7, r5⟩ := q
          cases q
          refine AF.inc1 dX9_writeFigure_97 rfl (by decide) ?_
          refine AF.goto 33 dX9_writeFigure_100 (by decide) ?_
          refine ih (j + 1) F (by omega) ?_ (((((hfr.trans r1 (Nat.le_refl _) (Nat.le_refl _)).trans r2 (Nat.le_refl _) (Nat.le_refl _)).trans r3 (Nat.le_refl _) (Nat.le_refl _)).trans r4 (Nat.le_refl _) (Nat.le_refl _)).trans r5 (Nat.le_refl _) (Nat.le_refl _))
          have e9 : wrF (fg X.sg.Fg i) (j + 1) = T ++ wrN (g3 (fg X.sg.Fg i) j).1 ++ [nI 58] ++ wrN (g3 (fg X.sg.Fg i) j).2.1 ++ [nI 61] ++ wrN (g3 (fg X.sg.Fg i) j).2.2 := by
            rw [wrF, ← eT, wrS]
            simp only [List.append_assoc]
          rw [e9]
          exact hM7
        obtain ⟨a, hT, hM2⟩ := id hM
        have hV := X9_steps_ok hM2 i (by omega)
        rw [hsc] at hV
        obtain ⟨h0, h1, hR⟩ := id hM2
        refine AF.iload_n dX9_writeFigure_33 rfl ?_
        refine AF.aload_n dX9_writeFigure_34 rfl ?_
        refine AF.iload_n dX9_writeFigure_35 rfl ?_
        refine AF.v1 dX9_writeFigure_36 kv_X9_77 (hV) (by assumption) rfl rfl rfl (Nat.le_of_ble_eq_true rfl) (by decide) rfl ?_
        refine AF.icmp_ge 103 dX9_writeFigure_39 (by decide) (fun hb => ?_) (fun hb => ?_)
        · rw [nI_leI (by omega) (by omega)] at hb
          omega
        · refine AF.iload_n dX9_writeFigure_42 rfl ?_
          refine AF.if_le 52 dX9_writeFigure_43 (by decide) (fun hb2 => ?_) (fun hb2 => ?_)
          · have hb2 : j = 0 := by
              have : nI j ≤ nI 0 := hb2
              rw [nI_leI (by omega) (by omega)] at this
              omega
            refine body F1 _ ?_ (by omega) hM hfr
            rw [if_neg (by omega), List.append_nil]
          · have hb2 : 0 < j := by
              have : ¬ nI j ≤ nI 0 := hb2
              rw [nI_leI (by omega) (by omega)] at this
              omega
            refine AF.aload_n dX9_writeFigure_46 rfl ?_
            refine AF.bipush (nI 32) dX9_writeFigure_47 (by decide) ?_
            refine AF.vw dX9_writeFigure_49 kv_X9_202 (X9_writes_ok hM ha (by omega) (nI 32)) (by assumption) rfl rfl rfl (Nat.le_of_ble_eq_true rfl) (by decide) rfl (fun E F9 q => nomatch q.1) (fun v F q => ?_)
            obtain ⟨q, hM3, r1⟩ := q
            cases q
            refine body F _ ?_ (by rw [List.length_append, List.length_singleton]; omega) hM3 (hfr.trans r1 (Nat.le_refl _) (Nat.le_refl _))
            rw [if_pos hb2]
    refine AF.iconst (nI 0) dX9_writeFigure_9 (by decide) ?_
    refine AF.goto 14 dX9_writeFigure_10 (by decide) ?_
    refine AF.putfieldF dX9_writeFigure_14 fp_X9_41 h0 (by omega) (Nat.le_of_ble_eq_true rfl) rfl rfl (Or.inr fq_6_0) ?_
    intro F e9 h9 o9
    replace h1 := (o9 (m + 1) (by omega)).trans h1
    replace hR := hR.kept (fun q h1 h2 => o9 q (by omega))
    replace h0 := h9
    replace hfr := hfr.step e9 (by omega) (by omega) o9
    clear e9 h9 o9
    refine AF.aload_n dX9_writeFigure_17 rfl ?_
    refine AF.getfield dX9_writeFigure_18 fl_X9_41 (by assumption) rfl ?_
    refine AF.if_le 26 dX9_writeFigure_21 (by decide) (fun c2 => ?_) (fun c2 => ?_)
    · refine AF.aload_n dX9_writeFigure_26 rfl ?_
      refine AF.iconst (nI 0) dX9_writeFigure_27 (by decide) ?_
      refine AF.putfieldF dX9_writeFigure_28 fp_X9_199 h0 (by omega) (Nat.le_of_ble_eq_true rfl) rfl rfl (Or.inr fq_6_12) ?_
      intro F e9 h9 o9
      replace h1 := (o9 (m + 1) (by omega)).trans h1
      replace hR := hR.kept (fun q h1 h2 => o9 q (by omega))
      replace h0 := h9
      replace hfr := hfr.step e9 (by omega) (by omega) o9
      clear e9 h9 o9
      refine AF.iconst (nI 0) dX9_writeFigure_31 (by decide) ?_
      refine AF.istore_n dX9_writeFigure_32 (by decide) ?_
      exact loop (fg X.sg.Fg i).length 0 F (by omega) ⟨A 7, fun i hi => absurd hi (Nat.not_lt_zero _), h0, h1, hR⟩ hfr
    · exact absurd (Int32.le_refl _) c2
end

