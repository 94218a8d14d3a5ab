/-! Texts that are constants: their length, their signs. -/
section
variable {G : GA} {mi : MI} {d bc bs : Nat} {R : AR → AH → Prop} {F : AH} {pc : Nat} {ls : List (Option Value)} {st : List Value}
theorem AF.vc1 {mi' : MI} {idx n d' b : Nat} {As rest : List Value} {v : Value} (hd : decode mi.2.1 pc = .ok (.invokevirtual idx, 3)) (hk : KV mi.1.cls idx mi' n) (hM : AC G mi' d' 0 0 (.ref b :: As) F (AV (some v) F)) (hO : va_O mi'.1.cls b (gA G) G.2.1 G.2.1.heap) (hn : As.length = n) (hst : st = As.reverse ++ .ref b :: rest) (hw : (rest.map fun v => v.category).sum ≤ 8) (hdd : d' + 1 ≤ d) (hx : mi.2.2.2.2 = [])
    (k : AF G mi d bc bs R F (pc + 3) ls (v :: rest)) : AF G mi d bc bs R F pc ls st :=
  AF.callVC (mc' := 0) (ms' := 0) hd hk hM hO hn hst hw hdd hx (fun E F' h => absurd h AV.x) (fun v' F' h => by obtain ⟨h1, rfl⟩ := h; cases h1; exact k)
end
section
variable {G : GA} {F : AH} {a v : Nat} {tx : String}
set_option maxRecDepth 100000 in
theorem J0_coder_ok (h : STR G a v tx) : AC G mJ0_coder_7d493 0 0 0 [.ref a] F (AV (some (.int 0)) F) := by
  obtain ⟨hO, hC, hV, hT⟩ := h
  refine AC.of [some (.ref a)] rfl (by decide) (Nat.le_of_ble_eq_true rfl) rfl (AF.ok fun hG => ?_)
  refine AF.getstatic dJ0_coder_7d493_0 jf_J0_38 hG.2.2.2.2.2.2.1.2.2.2.2.2.2.1 ?_
  refine AF.if_eq 13 dJ0_coder_7d493_3 (by decide) (fun c1 => ?_) (fun c1 => ?_)
  · exact absurd c1 (by decide)
  · refine AF.aload_n dJ0_coder_7d493_6 rfl ?_
    refine AF.getfieldC dJ0_coder_7d493_7 jf_J0_15 hC ?_
    refine AF.goto 14 dJ0_coder_7d493_10 (by decide) ?_
    exact AF.zreturn dJ0_coder_7d493_14 rfl rfl ⟨rfl, rfl⟩
set_option maxRecDepth 100000 in
theorem J0_isLatin1_ok (h : STR G a v tx) : AC G mJ0_isLatin1_aae02 0 0 0 [.ref a] F (AV (some (.int 1)) F) := by
  obtain ⟨hO, hC, hV, hT⟩ := h
  refine AC.of [some (.ref a)] rfl (by decide) (Nat.le_of_ble_eq_true rfl) rfl (AF.ok fun hG => ?_)
  refine AF.getstatic dJ0_isLatin1_aae02_0 jf_J0_38 hG.2.2.2.2.2.2.1.2.2.2.2.2.2.1 ?_
  refine AF.if_eq 17 dJ0_isLatin1_aae02_3 (by decide) (fun c1 => ?_) (fun c1 => ?_)
  · exact absurd c1 (by decide)
  · refine AF.aload_n dJ0_isLatin1_aae02_6 rfl ?_
    refine AF.getfieldC dJ0_isLatin1_aae02_7 jf_J0_15 hC ?_
    refine AF.if_ne 17 dJ0_isLatin1_aae02_10 (by decide) (fun c2 => ?_) (fun c2 => ?_)
    · exact absurd rfl c2
    · refine AF.iconst (1) dJ0_isLatin1_aae02_13 (by decide) ?_
      refine AF.goto 18 dJ0_isLatin1_aae02_14 (by decide) ?_
      exact AF.zreturn dJ0_isLatin1_aae02_18 rfl rfl ⟨rfl, rfl⟩
set_option maxRecDepth 100000 in
theorem J0_length_ok (h : STR G a v tx) : AC G mJ0_length_8abf5 1 0 0 [.ref a] F (AV (some (.int (nI tx.toList.length))) F) := by
  have hC := J0_coder_ok (F := F) h
  obtain ⟨hO, -, hV, hT⟩ := h
  refine AC.of [some (.ref a)] rfl (by decide) (Nat.le_of_ble_eq_true rfl) rfl ?_
  refine AF.aload_n dJ0_length_8abf5_0 rfl ?_
  refine AF.getfieldC dJ0_length_8abf5_1 jf_J0_9 hV ?_
  refine AF.arraylengthT (v := nI tx.toList.length) dJ0_length_8abf5_4 hT rfl ?_
  refine AF.aload_n dJ0_length_8abf5_5 rfl ?_
  refine AF.vc1 dJ0_length_8abf5_6 jv_J0_335 hC hO rfl rfl (Nat.le_of_ble_eq_true rfl) (by decide) rfl ?_
  refine AF.ishr0 dJ0_length_8abf5_9 ?_
  exact AF.ireturn dJ0_length_8abf5_10 rfl ⟨rfl, rfl⟩
set_option maxRecDepth 100000 in
theorem J3_checkIndex_ok {j n : Nat} (hj : j < n) (hn : n < 2 ^ 31) {fv : Value} (hv : fv = .null ∨ ∃ q, fv = .ref q) : AC G mJ3_checkIndex_8e157 0 0 0 [.int (nI j), .int (nI n), fv] F (AV (some (.int (nI j))) F) := by
  have key : ∀ fv, (lg_sl [.int (nI j), .int (nI n), fv]).length ≤ mJ3_checkIndex_8e157.2.2.1 → lx [some (.int (nI j)), some (.int (nI n)), some fv] = lv_args 0 [.int (nI j), .int (nI n), fv] → AC G mJ3_checkIndex_8e157 0 0 0 [.int (nI j), .int (nI n), fv] F (AV (some (.int (nI j))) F) := by
    intro fv h1 h2
    refine AC.of [some (.int (nI j)), some (.int (nI n)), some fv] rfl (by decide) h1 h2 ?_
    refine AF.iload_n dJ3_checkIndex_8e157_0 rfl ?_
    refine AF.if_lt 9 dJ3_checkIndex_8e157_1 (by decide) (fun c1 => ?_) (fun c1 => ?_)
    · exact absurd c1 (nI_pos (by omega))
    · refine AF.iload_n dJ3_checkIndex_8e157_4 rfl ?_
      refine AF.iload_n dJ3_checkIndex_8e157_5 rfl ?_
      refine AF.icmp_lt 16 dJ3_checkIndex_8e157_6 (by decide) (fun c2 => ?_) (fun c2 => ?_)
      · refine AF.iload_n dJ3_checkIndex_8e157_16 rfl ?_
        exact AF.ireturn dJ3_checkIndex_8e157_17 rfl ⟨rfl, rfl⟩
      · exact absurd (nI_lt hj hn) c2
  rcases hv with rfl | ⟨q, rfl⟩
  · exact key _ (Nat.le_of_ble_eq_true rfl) rfl
  · exact key _ (Nat.le_of_ble_eq_true rfl) rfl
set_option maxRecDepth 100000 in
theorem J0_checkIndex_ok {j n : Nat} (hj : j < n) (hn : n < 2 ^ 31) : AC G mJ0_checkIndex_df160 1 0 0 [.int (nI j), .int (nI n)] F (AV none F) := by
  refine AC.of [some (.int (nI j)), some (.int (nI n))] rfl (by decide) (Nat.le_of_ble_eq_true rfl) rfl (AF.ok fun hG => ?_)
  refine AF.iload_n dJ0_checkIndex_df160_0 rfl ?_
  refine AF.iload_n dJ0_checkIndex_df160_1 rfl ?_
  refine AF.getstaticQ dJ0_checkIndex_df160_2 jf_J0_1053 hG.2.2.2.2.2.2.1.2.2.2.2.2.2.2.1 (fun fv hv => ?_)
  refine AF.s1 dJ0_checkIndex_df160_5 jv_J0_1059 (J3_checkIndex_ok hj hn hv) rfl rfl (Nat.le_of_ble_eq_true rfl) (by decide) rfl ?_
  refine AF.pop dJ0_checkIndex_df160_8 rfl ?_
  exact AF.vreturn dJ0_checkIndex_df160_9 rfl ⟨rfl, rfl⟩
theorem and255 : ∀ c, c < 128 → ((nI c &&& 255).toUInt32 % 65536).toInt32 = nI c := by decide +kernel
set_option maxRecDepth 100000 in
theorem J1_charAt_ok (h : STR G a v tx) {j : Nat} (hj : j < tx.toList.length) (hl : tx.toList.length < 2 ^ 20) (hc : (tx.toList.getD j ' ').toNat < 128) : AC G mJ1_charAt_3b067 2 0 0 [.ref v, .int (nI j)] F (AV (some (.int (sby tx j))) F) := by
  have hI := J0_checkIndex_ok (G := G) (F := F) hj (by omega)
  obtain ⟨hO, -, hV, hT⟩ := h
  refine AC.of [some (.ref v), some (.int (nI j))] rfl (by decide) (Nat.le_of_ble_eq_true rfl) rfl ?_
  refine AF.iload_n dJ1_charAt_3b067_0 rfl ?_
  refine AF.aload_n dJ1_charAt_3b067_1 rfl ?_
  refine AF.arraylengthT (v := nI tx.toList.length) dJ1_charAt_3b067_2 hT rfl ?_
  refine AF.sw dJ1_charAt_3b067_3 jv_J1_9 hI rfl rfl (Nat.le_of_ble_eq_true rfl) (by decide) rfl (fun E F9 q => nomatch q.1) (fun w F9 q => ?_)
  obtain ⟨q, rfl⟩ := q
  cases q
  refine AF.aload_n dJ1_charAt_3b067_6 rfl ?_
  refine AF.iload_n dJ1_charAt_3b067_7 rfl ?_
  refine AF.baloadT j dJ1_charAt_3b067_8 hT rfl hj (by omega) rfl ?_
  refine AF.sipush (255) dJ1_charAt_3b067_9 (by decide) ?_
  refine AF.iand dJ1_charAt_3b067_12 ?_
  refine AF.i2c dJ1_charAt_3b067_13 ?_
  refine AF.zreturn dJ1_charAt_3b067_14 rfl nar_char ⟨?_, rfl⟩
  rw [show sby tx j = nI (tx.toList.getD j ' ').toNat from rfl, show (255 : Int32) = 255 from rfl, and255 _ hc]
set_option maxRecDepth 100000 in
theorem J0_charAt_ok (h : STR G a v tx) {j : Nat} (hj : j < tx.toList.length) (hl : tx.toList.length < 2 ^ 20) (hc : (tx.toList.getD j ' ').toNat < 128) : AC G mJ0_charAt_5068e 3 0 0 [.ref a, .int (nI j)] F (AV (some (.int (sby tx j))) F) := by
  have hL := J0_isLatin1_ok (F := F) h
  have hA := J1_charAt_ok (F := F) h hj hl hc
  have hn := (nar_c _ hc).2
  obtain ⟨hO, -, hV, hT⟩ := h
  refine AC.of [some (.ref a), some (.int (nI j))] rfl (by decide) (Nat.le_of_ble_eq_true rfl) rfl ?_
  refine AF.aload_n dJ0_charAt_5068e_0 rfl ?_
  refine AF.vc1 dJ0_charAt_5068e_1 jv_J0_492 hL hO rfl rfl (Nat.le_of_ble_eq_true rfl) (by decide) rfl ?_
  refine AF.if_eq 16 dJ0_charAt_5068e_4 (by decide) (fun c1 => ?_) (fun c1 => ?_)
  · exact absurd c1 (by decide)
  · refine AF.aload_n dJ0_charAt_5068e_7 rfl ?_
    refine AF.getfieldC dJ0_charAt_5068e_8 jf_J0_9 hV ?_
    refine AF.iload_n dJ0_charAt_5068e_11 rfl ?_
    refine AF.s1 dJ0_charAt_5068e_12 jv_J0_495 hA rfl rfl (Nat.le_of_ble_eq_true rfl) (by decide) rfl ?_
    refine AF.zreturn dJ0_charAt_5068e_15 rfl ?_ ⟨rfl, rfl⟩
    rw [show sby tx j = nI (tx.toList.getD j ' ').toNat from rfl]
    have h9 := nar_char (z := nI (tx.toList.getD j ' ').toNat)
    rw [(nar_c _ hc).1] at h9
    exact h9
end

