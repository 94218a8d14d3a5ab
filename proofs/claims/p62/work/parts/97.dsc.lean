/-! The builder takes a text, and becomes one. -/
section
variable {G : GA} {F : AH} {a v b bv cap : Nat} {S T : List Int32}
set_option maxRecDepth 100000 in
theorem J0_getBytes_s {ad n1 dp : Nat} {g : Nat → Int32} (hS : STX G F a v S) (hA : AS S) (had : F.2 ad = some (.inl (gC G 5, n1, .inl g))) (ha : gN G ≤ ad) (h5 : dp + S.length ≤ n1) (hn : n1 < 2 ^ 20) : AC G mJ0_getBytes_840e7 1 0 0 [.ref a, .ref ad, .int (nI dp), .int (nI 0)] F (fun r F' => r = .inl none ∧ F'.1 = F.1 ∧ (∃ f, F'.2 ad = some (.inl (gC G 5, n1, .inl (va_cpy f g 0 dp S.length))) ∧ (∀ i, vp_nar .byte (f i) = f i) ∧ ∀ i, i < S.length → f i = S.getD i 0) ∧ ∀ q, ¬ q = ad → F'.2 q = F.2 q) := by
  refine AC.of [some (.ref a), some (.ref ad), some (.int (nI dp)), some (.int (nI 0))] rfl (by decide) (Nat.le_of_ble_eq_true rfl) rfl ?_
  refine AF.aload_n dJ0_getBytes_840e7_0 rfl ?_
  refine AF.scall hS dJ0_getBytes_840e7_1 jv_J0_335 rfl (J0_coder_s hS) rfl rfl (Nat.le_of_ble_eq_true rfl) (by decide) rfl ?_
  refine AF.iload_n dJ0_getBytes_840e7_4 rfl ?_
  refine AF.icmp_ne 28 dJ0_getBytes_840e7_5 (by decide) (fun c1 => ?_) (fun c1 => ?_)
  · exact absurd rfl c1
  · refine AF.aload_n dJ0_getBytes_840e7_8 rfl ?_
    refine AF.sgv hS dJ0_getBytes_840e7_9 jf_J0_9 fl_J0_9 ?_
    refine AF.iconst (nI 0) dJ0_getBytes_840e7_12 (by decide) ?_
    refine AF.aload_n dJ0_getBytes_840e7_13 rfl ?_
    refine AF.iload_n dJ0_getBytes_840e7_14 rfl ?_
    refine AF.iload_n dJ0_getBytes_840e7_15 rfl ?_
    refine AF.ishl dJ0_getBytes_840e7_16 ?_
    rw [show nI dp <<< (nI 0 &&& 31) = nI dp from sb_shl0 _]
    refine AF.aload_n dJ0_getBytes_840e7_17 rfl ?_
    refine AF.sgv hS dJ0_getBytes_840e7_18 jf_J0_9 fl_J0_9 ?_
    refine AF.slen hS dJ0_getBytes_840e7_21 ?_
    refine AF.scopy hS hA dJ0_getBytes_840e7_22 ka_J0_212 had ha rfl rfl rfl h5 hn (Nat.le_of_ble_eq_true rfl) (by decide) (fun F' h1 h2 h3 => ?_)
    refine AF.goto 43 dJ0_getBytes_840e7_25 (by decide) ?_
    exact AF.vreturn dJ0_getBytes_840e7_43 rfl ⟨rfl, h1, h2, h3⟩
set_option maxRecDepth 100000 in
theorem J5_inflate_s {z0 z1 z2 : Value} (hS : STX G F a v S) (h0 : F.2 b = some (.inr (7, [z0, .int 0, z1, z2]))) : AC G mJ5_inflateIfNeededFor_a7421 1 0 0 [.ref b, .ref a] F (AV none F) := by
  refine AC.of [some (.ref b), some (.ref a)] rfl (by decide) (Nat.le_of_ble_eq_true rfl) rfl (AF.ok fun hG => ?_)
  refine AF.getstatic dJ5_inflateIfNeededFor_a7421_0 jf_J5_18 hG.2.2.2.2.2.2.1.2.2.2.2.2.2.1 ?_
  refine AF.if_eq 21 dJ5_inflateIfNeededFor_a7421_3 (by decide) (fun c1 => ?_) (fun c1 => ?_)
  · exact absurd c1 (by decide)
  · refine AF.aload_n dJ5_inflateIfNeededFor_a7421_6 rfl ?_
    refine AF.getfield dJ5_inflateIfNeededFor_a7421_7 fl_J5_22 (by assumption) rfl ?_
    refine AF.aload_n dJ5_inflateIfNeededFor_a7421_10 rfl ?_
    refine AF.scall hS dJ5_inflateIfNeededFor_a7421_11 jv_J5_40 rfl (J0_coder_s hS) rfl rfl (Nat.le_of_ble_eq_true rfl) (by decide) rfl ?_
    refine AF.icmp_eq 21 dJ5_inflateIfNeededFor_a7421_14 (by decide) (fun c2 => ?_) (fun c2 => ?_)
    · exact AF.vreturn dJ5_inflateIfNeededFor_a7421_21 rfl ⟨rfl, rfl⟩
    · exact absurd rfl c2
set_option maxRecDepth 100000 in
theorem J5_put_s {ml n : Nat} {z1 : Value} {g : Nat → Int32} (hS : STX G F a v S) (hA : AS S) (h0 : F.2 b = some (.inr (7, [.ref bv, .int 0, z1, .int (nI n)]))) (h1 : F.2 bv = some (.inl (gC G 5, cap, .inl g))) (hb : gN G ≤ bv) (hl : ml + S.length ≤ cap) (hc : cap < 2 ^ 20) : AC G mJ5_putStringAt_47b60 2 0 0 [.ref b, .int (nI ml), .ref a] F (fun r F' => r = .inl none ∧ F'.1 = F.1 ∧ (∃ f, F'.2 bv = some (.inl (gC G 5, cap, .inl (va_cpy f g 0 ml S.length))) ∧ (∀ i, vp_nar .byte (f i) = f i) ∧ ∀ i, i < S.length → f i = S.getD i 0) ∧ ∀ q, ¬ q = bv → F'.2 q = F.2 q) := by
  refine AC.of [some (.ref b), some (.int (nI ml)), some (.ref a)] rfl (by decide) (Nat.le_of_ble_eq_true rfl) rfl ?_
  refine AF.aload_n dJ5_putStringAt_47b60_0 rfl ?_
  refine AF.aload_n dJ5_putStringAt_47b60_1 rfl ?_
  refine AF.callPV (mc' := 0) (ms' := 0) dJ5_putStringAt_47b60_2 jv_J5_397 (J5_inflate_s hS h0) h0 rfl rfl (Nat.le_of_ble_eq_true rfl) (by decide) rfl (fun E F' h => AV.x h) (fun v' F' h => ?_)
  obtain ⟨h, rfl⟩ := h
  cases h
  refine AF.aload_n dJ5_putStringAt_47b60_5 rfl ?_
  refine AF.aload_n dJ5_putStringAt_47b60_6 rfl ?_
  refine AF.getfield dJ5_putStringAt_47b60_7 fl_J5_15 (by assumption) rfl ?_
  refine AF.iload_n dJ5_putStringAt_47b60_10 rfl ?_
  refine AF.aload_n dJ5_putStringAt_47b60_11 rfl ?_
  refine AF.getfield dJ5_putStringAt_47b60_12 fl_J5_22 (by assumption) rfl ?_
  refine AF.scallw hS dJ5_putStringAt_47b60_15 jv_J5_399 rfl (J0_getBytes_s hS hA h1 hb hl hc) rfl rfl (Nat.le_of_ble_eq_true rfl) (by decide) rfl (fun E F9 h => nomatch h.1) (fun v' F2 h => ?_)
  obtain ⟨h, e1, e2, e3⟩ := h
  cases h
  exact AF.vreturn dJ5_putStringAt_47b60_18 rfl ⟨rfl, e1, e2, e3⟩
/-- the text is none of the builder's cells -/
def SEP (a v b bv : Nat) (F : AH) : Prop := ¬ a = b ∧ ¬ a = bv ∧ ¬ v = b ∧ ¬ v = bv ∧ a < F.1 ∧ v < F.1
theorem STR.sep {tx : String} (h : STR G a v tx) (hb : gN G ≤ b) (hv : gN G ≤ bv) (hF : gN G ≤ F.1) : SEP a v b bv F := by
  obtain ⟨⟨cell, _, _, _, h1⟩, -, -, hT⟩ := id h
  have h2 := va_T.out hT
  have h3 : ¬ gN G ≤ v := h2
  have h4 : ¬ gN G ≤ a := by
    exact h1
  unfold SEP
  omega
set_option maxRecDepth 100000 in
theorem J5_appendS_ok {F0 : AH} (hB : BA G F0 b bv T cap) (hb : gN G ≤ b) (hb1 : b < F0.1) (hS : STX G F0 a v S) (hA : AS S) (hs : SEP a v b bv F0) (hl : T.length + S.length ≤ 16) : AC G mJ5_append_cf1ce 4 1 142 [.ref b, .ref a] F0 (BW G b bv (T ++ S) (some (.ref b)) F0) := by
  have hB0 := hB
  obtain ⟨s1, s2, s3, s4, s5, s6⟩ := hs
  obtain ⟨ml, f0, ⟨h0, h1⟩, ⟨g1, g2, g3, g4⟩, g5, g6, g7⟩ := hB
  have e5 : (T ++ S).length = T.length + S.length := List.length_append
  refine AC.of [some (.ref b), some (.ref a), none] rfl (by decide) (Nat.le_of_ble_eq_true rfl) rfl ?_
  refine AF.aload_n dJ5_append_cf1ce_0 rfl ?_
  refine AF.ifnonnull 9 dJ5_append_cf1ce_1 (by decide) ?_
  refine AF.aload_n dJ5_append_cf1ce_9 rfl ?_
  refine AF.scall hS dJ5_append_cf1ce_10 jv_J5_32 rfl (J0_length_s hS) rfl rfl (Nat.le_of_ble_eq_true rfl) (by decide) rfl ?_
  refine AF.istore_n dJ5_append_cf1ce_13 (by decide) ?_
  refine AF.aload_n dJ5_append_cf1ce_14 rfl ?_
  refine AF.aload_n dJ5_append_cf1ce_15 rfl ?_
  refine AF.getfield dJ5_append_cf1ce_16 fl_J5_79 (by assumption) rfl ?_
  refine AF.iload_n dJ5_append_cf1ce_19 rfl ?_
  refine AF.iadd dJ5_append_cf1ce_20 ?_
  rw [nI_add]
  refine AF.callPV (bc := 0) (bs := 0) (mc' := 1) (ms' := 142) dJ5_append_cf1ce_21 jv_J5_100 (J5_ensure_ok hB0 hb hb1 (T.length + S.length) (by omega) (by omega)) h0 rfl rfl (Nat.le_of_ble_eq_true rfl) (by decide) rfl (fun E F9 h => nomatch h.1) (fun w F h => ?_)
  obtain ⟨h, bv', cap', hB', hq, hg1, hg2, hg3⟩ := h
  cases h
  clear h0 h1 g1 g2 g3 g4 g5 hB0
  obtain ⟨ml, f1, ⟨h0, h1⟩, ⟨g1, g2, g3, g4⟩, g5, g8, g9⟩ := hB'
  have hS' := hS.kept (hg3 a s5 s1 s2) (hg3 v s6 s3 s4)
  refine AF.aload_n dJ5_append_cf1ce_24 rfl ?_
  refine AF.aload_n dJ5_append_cf1ce_25 rfl ?_
  refine AF.getfield dJ5_append_cf1ce_26 fl_J5_79 (by assumption) rfl ?_
  refine AF.aload_n dJ5_append_cf1ce_29 rfl ?_
  refine AF.callPV (mc' := 0) (ms' := 0) dJ5_append_cf1ce_30 jv_J5_208 (J5_put_s hS' hA h0 h1 g8 hq (by omega)) h0 rfl rfl (Nat.le_of_ble_eq_true rfl) (by decide) rfl (fun E F9 h => nomatch h.1) (fun w F2 h => ?_)
  obtain ⟨h, e1, ⟨f2, k1, k2, k3⟩, e3⟩ := h
  cases h
  have h0' := (e3 b (fun z => g5 z.symm)).trans h0
  refine AF.aload_n dJ5_append_cf1ce_33 rfl ?_
  refine AF.dup dJ5_append_cf1ce_34 rfl ?_
  refine AF.getfield dJ5_append_cf1ce_35 fl_J5_79 (by assumption) rfl ?_
  refine AF.iload_n dJ5_append_cf1ce_38 rfl ?_
  refine AF.iadd dJ5_append_cf1ce_39 ?_
  rw [nI_add]
  refine AF.putfieldF dJ5_append_cf1ce_40 fp_J5_79 h0' (by omega) (Nat.le_of_ble_eq_true rfl) rfl rfl (Or.inr fq_7_3) ?_
  intro F3 e9 h9 o9
  refine AF.aload_n dJ5_append_cf1ce_43 rfl ?_
  rw [← e5] at h9
  refine AF.areturn dJ5_append_cf1ce_44 rfl (Or.inl ⟨_, rfl⟩) (Or.inr ⟨_, rfl⟩) ⟨rfl, bv', cap', ⟨ml, _, ⟨h9, (o9 bv' g5).trans k1⟩, ⟨by omega, by omega, fun i => ?_, fun i hi => ?_⟩, g5, by omega, by omega⟩, ⟨by omega, hg2, fun x x1 x2 x3 => ?_⟩⟩
  · by_cases q : T.length ≤ i ∧ i < T.length + S.length
    · rw [pk_cpy_in q.1 q.2]; exact k2 _
    · rw [pk_cpy_out (by omega)]; exact g3 i
  · rw [e5] at hi
    by_cases q : i < T.length
    · rw [pk_cpy_out (by omega), gd_apL q]
      exact g4 i q
    · obtain ⟨j, rfl⟩ : ∃ j, i = T.length + j := ⟨i - T.length, by omega⟩
      rw [pk_cpy_in (by omega) (by omega), gd_apR, show 0 + (T.length + j - T.length) = j by omega]
      exact k3 j (by omega)
  · have hx : ¬ x = bv' := by omega
    exact (o9 x x2).trans ((e3 x hx).trans (hg3 x x1 x2 x3))
set_option maxRecDepth 100000 in
theorem J4_appendS_ok (hB : BA G F b bv T cap) (hb : gN G ≤ b) (hb1 : b < F.1) (hS : STX G F a v S) (hA : AS S) (hs : SEP a v b bv F) (hl : T.length + S.length ≤ 16) : AC G mJ4_append_15ec4 5 1 142 [.ref b, .ref a] F (BW G b bv (T ++ S) (some (.ref b)) F) := by
  have hK := J5_appendS_ok hB hb hb1 hS hA hs hl
  obtain ⟨ml, f, ⟨h0, h1⟩, -⟩ := hB
  refine AC.of [some (.ref b), some (.ref a)] rfl (by decide) (Nat.le_of_ble_eq_true rfl) rfl ?_
  refine AF.aload_n dJ4_append_15ec4_0 rfl ?_
  refine AF.aload_n dJ4_append_15ec4_1 rfl ?_
  refine AF.callSU (bc := 0) (bs := 0) (mc' := 1) (ms' := 142) dJ4_append_15ec4_2 jv_J4_29 hK h0 rfl rfl (Nat.le_of_ble_eq_true rfl) (by decide) rfl (fun E F9 h => nomatch h.1) (fun v F' h => ?_)
  obtain ⟨h, hk⟩ := h
  cases h
  refine AF.pop dJ4_append_15ec4_5 rfl ?_
  refine AF.aload_n dJ4_append_15ec4_6 rfl ?_
  exact AF.areturn dJ4_append_15ec4_7 rfl (Or.inl ⟨_, rfl⟩) (Or.inr ⟨_, rfl⟩) ⟨rfl, hk⟩
set_option maxRecDepth 100000 in
theorem J5_getValue_ok {z1 z2 : Value} (h0 : F.2 b = some (.inr (7, [.ref bv, .int 0, z1, z2]))) : AC G mJ5_getValue_6d5f1 0 0 0 [.ref b] F (AV (some (.ref bv)) F) := by
  refine AC.of [some (.ref b)] rfl (by decide) (Nat.le_of_ble_eq_true rfl) rfl ?_
  refine AF.aload_n dJ5_getValue_6d5f1_0 rfl ?_
  refine AF.getfield dJ5_getValue_6d5f1_1 fl_J5_15 (by assumption) rfl ?_
  exact AF.areturn dJ5_getValue_6d5f1_4 rfl (Or.inr ⟨_, rfl⟩) (Or.inr ⟨_, rfl⟩) ⟨rfl, rfl⟩
set_option maxRecDepth 100000 in
theorem J7_checkLength_ok (q : Nat) (hq : q < 2 ^ 20) : AC G mJ7_checkLength_df160 0 0 0 [.int (nI 0), .int (nI q)] F (AV none F) := by
  refine AC.of [some (.int (nI 0)), some (.int (nI q))] rfl (by decide) (Nat.le_of_ble_eq_true rfl) rfl ?_
  refine AF.iload_n dJ7_checkLength_df160_0 rfl ?_
  refine AF.iload_n dJ7_checkLength_df160_1 rfl ?_
  refine AF.icmp_ge 37 dJ7_checkLength_df160_2 (by decide) (fun c1 => ?_) (fun c1 => ?_)
  · exact AF.vreturn dJ7_checkLength_df160_37 rfl ⟨rfl, rfl⟩
  · exact absurd (nI_le (a := 0) (b := q) (by omega) (by omega)) c1
set_option maxRecDepth 100000 in
theorem J7_copyOfRangeByte_ok {F0 : AH} {f : Nat → Int32} {x n : Nat} (h1 : F0.2 x = some (.inl (gC G 5, n, .inl f))) (hx : x < F0.1) (hN : NB f) (q : Nat) (hq : q ≤ n ∧ n < 2 ^ 20) (hb : gN G ≤ F0.1) : AC G mJ7_copyOfRangeByte_39247 1 1 q [.ref x, .int (nI 0), .int (nI q)] F0 (fun r F' => r = .inl (some (.ref F0.1)) ∧ F'.1 = F0.1 + 1 ∧ (∃ g, F'.2 F0.1 = some (.inl (gC G 5, q, .inl g)) ∧ NB g ∧ ∀ i, i < q → g i = f i) ∧ ∀ y, ¬ y = F0.1 → F'.2 y = F0.2 y) := by
  refine AC.of [some (.ref x), some (.int (nI 0)), some (.int (nI q)), none, none] rfl (by decide) (Nat.le_of_ble_eq_true rfl) rfl ?_
  refine AF.iload_n dJ7_copyOfRangeByte_39247_0 rfl ?_
  refine AF.iload_n dJ7_copyOfRangeByte_39247_1 rfl ?_
  refine AF.sw dJ7_copyOfRangeByte_39247_2 jv_J7_343 (J7_checkLength_ok q (by omega)) rfl rfl (Nat.le_of_ble_eq_true rfl) (by decide) rfl (fun E F9 q => nomatch q.1) (fun w F9 q => ?_)
  obtain ⟨q9, rfl⟩ := q
  cases q9
  refine AF.iload_n dJ7_copyOfRangeByte_39247_5 rfl ?_
  refine AF.iload_n dJ7_copyOfRangeByte_39247_6 rfl ?_
  refine AF.isub dJ7_copyOfRangeByte_39247_7 ?_
  rw [show nI q - nI 0 = nI q from pk_sub (Nat.zero_le _)]
  refine AF.istore_n dJ7_copyOfRangeByte_39247_8 (by decide) ?_
  refine AF.iload_n dJ7_copyOfRangeByte_39247_9 rfl ?_
  refine AF.less (d' := 1) (bc' := 0 + 1) (bs' := 0 + q) ?_ (Nat.le_refl _) (Nat.le_refl _) (by omega)
  refine AF.newB (n := q) (bc := 0) (bs := 0) dJ7_copyOfRangeByte_39247_10 aw_byte rfl (by omega) ?_
  intro F e9 h9 o9
  replace h1 := (o9 x (by omega)).trans h1
  refine AF.astore dJ7_copyOfRangeByte_39247_12 (by decide) ?_
  refine AF.aload_n dJ7_copyOfRangeByte_39247_14 rfl ?_
  refine AF.iload_n dJ7_copyOfRangeByte_39247_15 rfl ?_
  refine AF.aload dJ7_copyOfRangeByte_39247_16 rfl ?_
  refine AF.iconst (nI 0) dJ7_copyOfRangeByte_39247_18 (by decide) ?_
  refine AF.aload_n dJ7_copyOfRangeByte_39247_19 rfl ?_
  refine AF.arraylength (t0 := 5) (nI n) dJ7_copyOfRangeByte_39247_20 h1 rfl rfl ?_
  refine AF.iload_n dJ7_copyOfRangeByte_39247_21 rfl ?_
  refine AF.isub dJ7_copyOfRangeByte_39247_22 ?_
  rw [show nI n - nI 0 = nI n from pk_sub (Nat.zero_le _)]
  refine AF.iload_n dJ7_copyOfRangeByte_39247_23 rfl ?_
  refine AF.min dJ7_copyOfRangeByte_39247_24 km_J7_304 (Nat.le_of_ble_eq_true rfl) (by decide) ?_
  rw [nI_min (by omega) (by omega), Nat.min_eq_right hq.1]
  refine AF.copyB hN dJ7_copyOfRangeByte_39247_27 ka_J7_150 h1 h9 hb rfl rfl rfl (by omega) (by omega) (by omega) (by omega) (Nat.le_of_ble_eq_true rfl) (by decide) ?_
  intro F2 e8 h8 o8
  refine AF.aload dJ7_copyOfRangeByte_39247_30 rfl ?_
  refine AF.areturn dJ7_copyOfRangeByte_39247_32 rfl (Or.inr ⟨_, rfl⟩) (Or.inr ⟨_, rfl⟩) ⟨rfl, e8.trans e9, ⟨_, h8, fun i => ?_, fun i hi => ?_⟩, fun y hy => (o8 y hy).trans (o9 y hy)⟩
  · by_cases z : 0 ≤ i ∧ i < 0 + q
    · rw [pk_cpy_in z.1 z.2]; exact hN _
    · rw [pk_cpy_out (by omega)]; decide
  · rw [pk_cpy_in (by omega) (by omega), show 0 + (i - 0) = i by omega]
set_option maxRecDepth 100000 in
theorem J7_copyOfRange_ok {F0 : AH} {f : Nat → Int32} {x n : Nat} (h1 : F0.2 x = some (.inl (gC G 5, n, .inl f))) (hx : x < F0.1) (hN : NB f) (q : Nat) (hq : q ≤ n ∧ n < 2 ^ 20) (hb : gN G ≤ F0.1) : AC G mJ7_copyOfRange_39247 2 1 q [.ref x, .int (nI 0), .int (nI q)] F0 (fun r F' => r = .inl (some (.ref F0.1)) ∧ F'.1 = F0.1 + 1 ∧ (∃ g, F'.2 F0.1 = some (.inl (gC G 5, q, .inl g)) ∧ NB g ∧ ∀ i, i < q → g i = f i) ∧ ∀ y, ¬ y = F0.1 → F'.2 y = F0.2 y) := by
  refine AC.of [some (.ref x), some (.int (nI 0)), some (.int (nI q))] rfl (by decide) (Nat.le_of_ble_eq_true rfl) rfl ?_
  refine AF.iload_n dJ7_copyOfRange_39247_0 rfl ?_
  refine AF.if_ne 10 dJ7_copyOfRange_39247_1 (by decide) (fun c1 => ?_) (fun c1 => ?_)
  · exact absurd rfl c1
  · refine AF.iload_n dJ7_copyOfRange_39247_4 rfl ?_
    refine AF.aload_n dJ7_copyOfRange_39247_5 rfl ?_
    refine AF.arraylength (t0 := 5) (nI n) dJ7_copyOfRange_39247_6 h1 rfl rfl ?_
    refine AF.icmp_eq 17 dJ7_copyOfRange_39247_7 (by decide) (fun c2 => ?_) (fun c2 => ?_)
    · rw [nI_eq (by omega) (by omega)] at c2
      subst c2
      refine AF.aload_n dJ7_copyOfRange_39247_17 rfl ?_
      refine AF.less (d' := 2) (bc' := 0 + 1) (bs' := 0 + q) ?_ (Nat.le_refl _) (Nat.le_refl _) (by omega)
      refine AF.cloneB (bc := 0) (bs := 0) hN dJ7_copyOfRange_39247_18 kb_J7_310 h1 (Nat.le_of_ble_eq_true rfl) (by decide) (fun F e9 h9 o9 => ?_)
      refine AF.castB dJ7_copyOfRange_39247_21 kc_J7_311 h9 ?_
      exact AF.areturn dJ7_copyOfRange_39247_24 rfl (Or.inr ⟨_, rfl⟩) (Or.inr ⟨_, rfl⟩) ⟨rfl, e9, ⟨_, h9, hN, fun _ _ => rfl⟩, o9⟩
    · refine AF.aload_n dJ7_copyOfRange_39247_10 rfl ?_
      refine AF.iload_n dJ7_copyOfRange_39247_11 rfl ?_
      refine AF.iload_n dJ7_copyOfRange_39247_12 rfl ?_
      refine AF.less (d' := 2) (bc' := 0 + 1) (bs' := 0 + q) ?_ (Nat.le_refl _) (Nat.le_refl _) (by omega)
      refine AF.callS (bc := 0) (bs := 0) (mc' := 1) (ms' := q) dJ7_copyOfRange_39247_13 jv_J7_339 (J7_copyOfRangeByte_ok h1 hx hN q hq hb) rfl rfl (Nat.le_of_ble_eq_true rfl) (by decide) rfl (fun E F9 h => nomatch h.1) (fun w F h => ?_)
      obtain ⟨h, hz, h7, o7⟩ := h
      cases h
      exact AF.areturn dJ7_copyOfRange_39247_16 rfl (Or.inr ⟨_, rfl⟩) (Or.inr ⟨_, rfl⟩) ⟨rfl, hz, h7, o7⟩
set_option maxRecDepth 100000 in
theorem J0_init2_ok {F0 : AH} {x : Nat} (hF : F0.2 x = some (.inr (8, [.null, .int 0, .int 0, .int 0]))) (hB : BA G F0 b bv T cap) (hx : gN G ≤ x) (hx1 : x < F0.1) (hxb : ¬ x = bv) (hb : ¬ x = b) : AC G mJ0_init_db425 3 1 T.length [.ref x, .ref b, .null] F0 (fun r F' => r = .inl none ∧ F'.1 = F0.1 + 1 ∧ (∃ g, F'.2 x = some (.inr (8, [.ref F0.1, .int 0, .int 0, .int 0])) ∧ F'.2 F0.1 = some (.inl (gC G 5, T.length, .inl g)) ∧ NB g ∧ ∀ i, i < T.length → g i = T.getD i 0) ∧ ∀ y, ¬ y = x → ¬ y = F0.1 → F'.2 y = F0.2 y) := by
  have hB0 := hB
  obtain ⟨ml, f, ⟨h0, h1⟩, ⟨g1, g2, g3, g4⟩, g5, g6, g7⟩ := hB
  refine AC.of [some (.ref x), some (.ref b), some .null, none, none] rfl (by decide) (Nat.le_of_ble_eq_true rfl) rfl ?_
  refine AF.aload_n dJ0_init_db425_0 rfl ?_
  refine AF.objInit dJ0_init_db425_1 ko_J0_1 (Nat.le_of_ble_eq_true rfl) (by decide) ?_
  refine AF.aload_n dJ0_init_db425_4 rfl ?_
  refine AF.callUA (mc' := 0) (ms' := 0) dJ0_init_db425_5 jv_J0_552 (J5_getValue_ok h0) h0 rfl rfl rfl (Nat.le_of_ble_eq_true rfl) (by decide) rfl (fun E F' h => AV.x h) (fun v' F' h => ?_)
  obtain ⟨h, rfl⟩ := h
  cases h
  refine AF.astore_n dJ0_init_db425_8 (by decide) ?_
  refine AF.aload_n dJ0_init_db425_9 rfl ?_
  refine AF.callUO (mc' := 0) (ms' := 0) dJ0_init_db425_10 jv_J0_549 (J4_length_ok hB0) h0 rfl rfl rfl (Nat.le_of_ble_eq_true rfl) (by decide) rfl (fun E F' h => AV.x h) (fun v' F2 h => ?_)
  obtain ⟨h, rfl⟩ := h
  cases h
  refine AF.istore dJ0_init_db425_13 (by decide) ?_
  refine AF.aload_n dJ0_init_db425_15 rfl ?_
  refine AF.callUA (mc' := 0) (ms' := 0) dJ0_init_db425_16 jv_J0_1047 (J5_isLatin1_ok h0) h0 rfl rfl rfl (Nat.le_of_ble_eq_true rfl) (by decide) rfl (fun E F' h => AV.x h) (fun v' F3 h => ?_)
  obtain ⟨h, rfl⟩ := h
  cases h
  refine AF.if_eq 41 dJ0_init_db425_19 (by decide) (fun c1 => ?_) (fun c1 => ?_)
  · exact absurd c1 (by decide)
  · refine AF.aload_n dJ0_init_db425_22 rfl ?_
    refine AF.iconst (0) dJ0_init_db425_23 (by decide) ?_
    refine AF.putfieldF dJ0_init_db425_24 fp_J0_15 hF hx (Nat.le_of_ble_eq_true rfl) rfl rfl (Or.inl rfl) ?_
    intro F4 e9 h9 o9
    have h1' := (o9 bv (fun z => hxb z.symm)).trans h1
    refine AF.aload_n dJ0_init_db425_27 rfl ?_
    refine AF.aload_n dJ0_init_db425_28 rfl ?_
    refine AF.iconst (nI 0) dJ0_init_db425_29 (by decide) ?_
    refine AF.iload dJ0_init_db425_30 rfl ?_
    refine AF.less (d' := 3) (bc' := 0 + 1) (bs' := 0 + T.length) ?_ (Nat.le_refl _) (Nat.le_refl _) (by omega)
    refine AF.callS (bc := 0) (bs := 0) (mc' := 1) (ms' := T.length) dJ0_init_db425_32 jv_J0_54 (J7_copyOfRange_ok h1' (by omega) g3 T.length (by omega) (by omega)) rfl rfl (Nat.le_of_ble_eq_true rfl) (by decide) rfl (fun E F9 h => nomatch h.1) (fun w F5 h => ?_)
    obtain ⟨h, hz, ⟨g, k1, k2, k3⟩, o7⟩ := h
    cases h
    have h9' := (o7 x (by omega)).trans h9
    refine AF.putfieldF dJ0_init_db425_35 fp_J0_9 h9' hx (Nat.le_of_ble_eq_true rfl) rfl rfl (Or.inl rfl) ?_
    intro F6 e8 h8 o8
    refine AF.goto 97 dJ0_init_db425_38 (by decide) ?_
    rw [e9] at hz k1 o7 h8
    exact AF.vreturn dJ0_init_db425_97 rfl ⟨rfl, e8.trans hz, ⟨g, h8, (o8 _ (by omega)).trans k1, k2, fun i hi => (k3 i hi).trans (g4 i hi)⟩, fun y y1 y2 => (o8 y y1).trans ((o7 y y2).trans (o9 y y1))⟩
set_option maxRecDepth 100000 in
theorem J0_init1_ok {F0 : AH} {x : Nat} (hF : F0.2 x = some (.inr (8, [.null, .int 0, .int 0, .int 0]))) (hB : BA G F0 b bv T cap) (hx : gN G ≤ x) (hx1 : x < F0.1) (hxb : ¬ x = bv) (hb : ¬ x = b) : AC G mJ0_init_81219 4 1 T.length [.ref x, .ref b] F0 (fun r F' => r = .inl none ∧ F'.1 = F0.1 + 1 ∧ (∃ g, F'.2 x = some (.inr (8, [.ref F0.1, .int 0, .int 0, .int 0])) ∧ F'.2 F0.1 = some (.inl (gC G 5, T.length, .inl g)) ∧ NB g ∧ ∀ i, i < T.length → g i = T.getD i 0) ∧ ∀ y, ¬ y = x → ¬ y = F0.1 → F'.2 y = F0.2 y) := by
  refine AC.of [some (.ref x), some (.ref b)] rfl (by decide) (Nat.le_of_ble_eq_true rfl) rfl ?_
  refine AF.aload_n dJ0_init_81219_0 rfl ?_
  refine AF.aload_n dJ0_init_81219_1 rfl ?_
  refine AF.null dJ0_init_81219_2 ?_
  refine AF.less (d' := 4) (bc' := 0 + 1) (bs' := 0 + T.length) ?_ (Nat.le_refl _) (Nat.le_refl _) (by omega)
  refine AF.callI (bc := 0) (bs := 0) (mc' := 1) (ms' := T.length) dJ0_init_81219_3 jv_J0_489 (J0_init2_ok hF hB hx hx1 hxb hb) rfl rfl (Nat.le_of_ble_eq_true rfl) (by decide) rfl (fun E F9 h => nomatch h.1) (fun w F h => ?_)
  obtain ⟨h, hk⟩ := h
  cases h
  exact AF.vreturn dJ0_init_81219_6 rfl ⟨rfl, hk⟩
set_option maxRecDepth 100000 in
/-- the builder's text, made -/
theorem J4_toString_ok {F0 : AH} (hB : BA G F0 b bv T cap) (hb : b < F0.1) (hg : gN G ≤ F0.1) : AC G mJ4_toString_0e30d 5 2 (T.length + 4) [.ref b] F0 (fun r F' => r = .inl (some (.ref F0.1)) ∧ F'.1 = F0.1 + 2 ∧ STX G F' F0.1 (F0.1 + 1) T ∧ ∀ y, y < F0.1 → F'.2 y = F0.2 y) := by
  have hB0 := hB
  obtain ⟨ml, f, ⟨h0, h1⟩, h2, g5, g6, g7⟩ := hB
  refine AC.of [some (.ref b)] rfl (by decide) (Nat.le_of_ble_eq_true rfl) rfl ?_
  refine AF.new (n := 4) (bc := 1) (bs := T.length) dJ4_toString_0e30d_0 kn_J4_18 rfl ?_
  intro F e9 h9 o9
  have hB1 : BA G F b bv T cap := ⟨ml, f, ⟨(o9 b (by omega)).trans h0, (o9 bv (by omega)).trans h1⟩, h2, g5, g6, by omega⟩
  refine AF.dup dJ4_toString_0e30d_3 rfl ?_
  refine AF.aload_n dJ4_toString_0e30d_4 rfl ?_
  refine AF.less (d' := 5) (bc' := 0 + 1) (bs' := 0 + T.length) ?_ (Nat.le_refl _) (Nat.le_refl _) (by omega)
  refine AF.callI (bc := 0) (bs := 0) (mc' := 1) (ms' := T.length) dJ4_toString_0e30d_5 jv_J4_137 (J0_init1_ok h9 hB1 hg (by omega) (by omega) (by omega)) rfl rfl (Nat.le_of_ble_eq_true rfl) (by decide) rfl (fun E F9 h => nomatch h.1) (fun w F2 h => ?_)
  obtain ⟨h, hz, ⟨g, k1, k2, k3, k4⟩, o7⟩ := h
  cases h
  rw [e9] at k1 k2 o7
  exact AF.areturn dJ4_toString_0e30d_8 rfl (Or.inl ⟨_, rfl⟩) (Or.inr ⟨_, rfl⟩) ⟨rfl, by omega, Or.inr ⟨g, _, _, k1, k2, k3, k4⟩, fun y hy => (o7 y (by omega) (by omega)).trans (o9 y (by omega))⟩
end

