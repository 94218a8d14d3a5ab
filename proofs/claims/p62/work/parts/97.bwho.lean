/-! The law: numbers of the script; the whole of a stage. -/
theorem ush1 (x : Int32) : (x.toUInt32 >>> (Int32.toUInt32 1 &&& Int32.toUInt32 31)).toInt32 = nI (x.toUInt32.toNat / 2) := by
  rw [show Int32.toUInt32 1 &&& Int32.toUInt32 31 = 1 from by decide]
  have h : (x.toUInt32 >>> 1).toNat = x.toUInt32.toNat / 2 := by
    rw [UInt32.toNat_shiftRight]
    exact Nat.shiftRight_succ _ 0
  rw [← h]
  apply Int32.toBitVec_inj.1
  show (x.toUInt32 >>> 1).toBitVec = BitVec.ofNat 32 (x.toUInt32 >>> 1).toBitVec.toNat
  rw [BitVec.ofNat_toNat, BitVec.setWidth_eq]
/-- a cell of the script; a number below n out of it -/
def clv (L : Nat) (xs : Nat → Int32) (k : Nat) : Int32 := if k < L then xs k else 40503 * nI k
def pkv (L : Nat) (xs : Nat → Int32) (k n : Nat) : Nat := (clv L xs k).toUInt32.toNat / 2 % n
theorem pkv_lt {L : Nat} {xs : Nat → Int32} {k n : Nat} (h : 0 < n) : pkv L xs k n < n := Nat.mod_lt _ h
section
variable {G : GA} {F F0 : AH} {c bv0 B b L : Nat} {Y : YS} {xs : Nat → Int32}
set_option maxRecDepth 100000 in
theorem L_cell_ok (hs : SCR G b L xs) (hL : L ≤ 260) (k : Nat) (hk : k ≤ 400) : AC G mL_cell 0 0 0 [.ref b, .int (nI k)] F (AV (some (.int (clv L xs k))) F) := by
  refine AC.of [some (.ref b), some (.int (nI k))] rfl (by decide) (Nat.le_of_ble_eq_true rfl) rfl ?_
  refine AF.iload_n dL_cell_0 rfl ?_
  refine AF.aload_n dL_cell_1 rfl ?_
  refine AF.arraylengthT (v := nI L) dL_cell_2 hs rfl ?_
  refine AF.icmp_ge 12 dL_cell_3 (by decide) (fun c1 => ?_) (fun c1 => ?_)
  · rw [nI_leI (by omega) (by omega)] at c1
    refine AF.ldcI dL_cell_12 kl_L_7 ?_
    refine AF.iload_n dL_cell_14 rfl ?_
    refine AF.imul dL_cell_15 ?_
    exact AF.ireturn dL_cell_16 rfl ⟨by unfold clv; rw [if_neg (by omega)], rfl⟩
  · rw [nI_leI (by omega) (by omega)] at c1
    refine AF.aload_n dL_cell_6 rfl ?_
    refine AF.iload_n dL_cell_7 rfl ?_
    refine AF.ialoadT (v := .int (xs k)) k dL_cell_8 hs rfl (by omega) (by omega) rfl ?_
    refine AF.goto 16 dL_cell_9 (by decide) ?_
    exact AF.ireturn dL_cell_16 rfl ⟨by unfold clv; rw [if_pos (by omega)], rfl⟩
set_option maxRecDepth 100000 in
theorem L_pick_ok (hs : SCR G b L xs) (hL : L ≤ 260) (k n : Nat) (hk : k ≤ 400) (h0 : 0 < n) (hn : n < 2 ^ 31) : AC G mL_pick 1 0 0 [.ref b, .int (nI k), .int (nI n)] F (AV (some (.int (nI (pkv L xs k n)))) F) := by
  have hx : (clv L xs k).toUInt32.toNat / 2 < 2 ^ 31 := by
    have := (clv L xs k).toUInt32.toNat_lt
    omega
  refine AC.of [some (.ref b), some (.int (nI k)), some (.int (nI n))] rfl (by decide) (Nat.le_of_ble_eq_true rfl) rfl ?_
  refine AF.aload_n dL_pick_0 rfl ?_
  refine AF.iload_n dL_pick_1 rfl ?_
  refine AF.s1 dL_pick_2 kv_L_8 ((L_cell_ok hs hL k hk)) rfl rfl (Nat.le_of_ble_eq_true rfl) (by decide) rfl ?_
  refine AF.iconst (1) dL_pick_5 (by decide) ?_
  refine AF.iushr dL_pick_6 (ush1 _) ?_
  refine AF.iload_n dL_pick_7 rfl ?_
  refine AF.irem dL_pick_8 (nI_ne0 h0 hn) ?_
  rw [pk_rem hx h0 hn]
  exact AF.ireturn dL_pick_9 rfl ⟨rfl, rfl⟩
set_option maxRecDepth 100000 in
set_option maxHeartbeats 8000000 in
theorem L_isWhole_ok (hK0 : LK G c Y B bv0 F0) (ha : gN G ≤ c) (hB : B + 41 ≤ 2 ^ 21) (hW : WI Y.1) (hs : SCR G b L xs) (hL : L ≤ 260) (k : Nat) (hk : k ≤ 300) (x : Int32) : AC G mL_isWhole 14 1211 7266 [.ref c, .ref b, .int (nI k), .int x] F0 (LR (LK G c Y B) c bv0 F0 (.int 1)) := by
  have hq := hK0.q
  have q1 := hq.2.2.1
  have q3 := hq.2.2.2.2.2
  obtain ⟨hI, hcap, -, -, -, -, -, hB2⟩ := id hq.1
  have hdN : ∀ n, n ≤ 41 → dem (nxN Y.1 n).J ≤ 100 := fun n hn => by
    have h := hq.nxN n (by omega)
    exact dem_le h.1.1 h.2.2.1
  obtain ⟨n, hn⟩ : ∃ n, n = pkv L xs (k + 1) 41 := ⟨_, rfl⟩
  have hn4 : n ≤ 40 := by have := pkv_lt (L := L) (xs := xs) (k := k + 1) (n := 41) (by decide); omega
  have hd0 := hdN n (by omega)
  -- at 196
  have k3 : ∀ F bv bc bs l5 l7 l8 l9, 1165 ≤ bc → 6990 ≤ bs → LK G c Y B bv F → XF c bv0 bv F0 F → AF G mL_isWhole 14 bc bs (LR (LK G c Y B) c bv0 F0 (.int 1)) F 196 [some (.ref c), some (.ref b), some (.int (nI k)), some (.int x), some (.int (nI n)), l5, some (.int 1), l7, l8, l9] [] := by
    intro F bv bc bs l5 l7 l8 l9 hb hs9 hK hX
    refine AF.less (d' := 14) (bc' := 1165) (bs' := 6990) ?_ (Nat.le_refl _) (by omega) (by omega)
    refine AF.iload dL_isWhole_196 rfl ?_
    refine AF.if_eq 240 dL_isWhole_198 (by decide) (fun c1 => ?_) (fun c1 => ?_)
    · exact absurd c1 (by decide)
    · refine AF.aload_n dL_isWhole_201 rfl ?_
      refine AF.aload_n dL_isWhole_202 rfl ?_
      refine AF.iload_n dL_isWhole_203 rfl ?_
      refine AF.iconst (nI 2) dL_isWhole_204 (by decide) ?_
      refine AF.iadd dL_isWhole_205 ?_
      rw [nI_add]
      refine AF.bipush (nI 120) dL_isWhole_206 (by decide) ?_
      have hp9 := pkv_lt (L := L) (xs := xs) (k := k + 2) (n := 120) (by decide)
      refine AF.s1 dL_isWhole_208 kv_L_188 ((L_pick_ok hs hL (k + 2) 120 (by omega) (by decide) (by decide))) rfl rfl (Nat.le_of_ble_eq_true rfl) (by decide) rfl ?_
      refine AF.bipush (nI 10) dL_isWhole_211 (by decide) ?_
      refine AF.isub dL_isWhole_213 ?_
      refine AF.ly (mc' := 722) (ms' := 4332) (bc := 443) (bs := 2658) dL_isWhole_214 kv_L_373 (L_areJets_ok hK ha hW (nI (pkv L xs (k + 2) 120) - nI 10) (by rw [pk_sub_toInt (by omega) (by omega)]; omega)) hX rfl rfl (Nat.le_of_ble_eq_true rfl) (by decide) rfl (fun F bv hK hX => ?_)
      refine AF.if_eq 240 dL_isWhole_217 (by decide) (fun c2 => ?_) (fun c2 => ?_)
      · exact absurd c2 (by decide)
      · refine AF.aload_n dL_isWhole_220 rfl ?_
        refine AF.ly (mc' := 443) (ms' := 2658) (bc := 0) (bs := 0) dL_isWhole_221 kv_L_377 (L_areFigures_ok hK ha) hX rfl rfl (Nat.le_of_ble_eq_true rfl) (by decide) rfl (fun F bv hK hX => ?_)
        refine AF.if_eq 240 dL_isWhole_224 (by decide) (fun c3 => ?_) (fun c3 => ?_)
        · exact absurd c3 (by decide)
        · refine AF.aload_n dL_isWhole_227 rfl ?_
          refine AF.lv (mc' := 0) (ms' := 0) (bc := 0) (bs := 0) dL_isWhole_228 kv_L_230 (Y_jetCount hK) hK.c0.choose_spec rfl hX rfl rfl (Nat.le_of_ble_eq_true rfl) (by decide) rfl (fun F bv hK hX => ?_)
          refine AF.bipush (nI 10) dL_isWhole_231 (by decide) ?_
          refine AF.icmp_gt 240 dL_isWhole_233 (by decide) (fun c4 => ?_) (fun c4 => ?_)
          · rw [nI_ltI (by omega) (by omega)] at c4; omega
          · refine AF.iconst (1) dL_isWhole_236 (by decide) ?_
            refine AF.goto 241 dL_isWhole_237 (by decide) ?_
            exact AF.zreturn dL_isWhole_241 rfl rfl ⟨rfl, bv, hK, hX⟩
  -- at 174
  have k2 : ∀ F bv bc bs l7 l9, 1165 ≤ bc → 6990 ≤ bs → LK G c Y B bv F → XF c bv0 bv F0 F → AF G mL_isWhole 14 bc bs (LR (LK G c Y B) c bv0 F0 (.int 1)) F 174 [some (.ref c), some (.ref b), some (.int (nI k)), some (.int x), some (.int (nI n)), some (.int (nI (dem (nxN Y.1 n).J))), some (.int 1), l7, some (.int 1), l9] [] := by
    intro F bv bc bs l7 l9 hb hs9 hK hX
    refine AF.less (d' := 14) (bc' := 1165) (bs' := 6990) ?_ (Nat.le_refl _) (by omega) (by omega)
    refine AF.iload dL_isWhole_174 rfl ?_
    refine AF.iload dL_isWhole_176 rfl ?_
    refine AF.if_eq 192 dL_isWhole_178 (by decide) (fun c1 => ?_) (fun c1 => ?_)
    · exact absurd c1 (by decide)
    · refine AF.aload_n dL_isWhole_181 rfl ?_
      refine AF.lv (mc' := 0) (ms' := 0) (bc := 1165) (bs := 6990) dL_isWhole_182 kv_L_369 (Y_isConsistent hK ha hB) hK.c0.choose_spec rfl hX rfl rfl (Nat.le_of_ble_eq_true rfl) (by decide) rfl (fun F bv hK hX => ?_)
      refine AF.if_eq 192 dL_isWhole_185 (by decide) (fun c2 => ?_) (fun c2 => ?_)
      · exact absurd c2 (by decide)
      · refine AF.iconst (1) dL_isWhole_188 (by decide) ?_
        refine AF.goto 193 dL_isWhole_189 (by decide) ?_
        refine AF.iand dL_isWhole_193 ?_
        rw [show (1 : Int32) &&& 1 = 1 from by decide]
        refine AF.istore dL_isWhole_194 (by decide) ?_
        exact k3 F bv _ _ _ l7 _ l9 (by omega) (by omega) hK hX
  -- the beats before the first overload
  have lp : ∀ r m F bv bc bs, m + r = n + 1 → 1 ≤ m → r + 1165 ≤ bc → 6 * r + 6990 ≤ bs → LK G c Y B bv F → XF c bv0 bv F0 F → AF G mL_isWhole 14 bc bs (LR (LK G c Y B) c bv0 F0 (.int 1)) F 121 [some (.ref c), some (.ref b), some (.int (nI k)), some (.int x), some (.int (nI n)), some (.int (nI (dem (nxN Y.1 n).J))), some (.int 1), some (.int (ovl Y.1 n)), some (.int 1), some (.int (nI m))] [] := by
    intro r
    induction r with
    | zero =>
      intro m F bv bc bs hm h1 hb hs9 hK hX
      refine AF.iload dL_isWhole_121 rfl ?_
      refine AF.iload dL_isWhole_123 rfl ?_
      refine AF.icmp_gt 174 dL_isWhole_125 (by decide) (fun c1 => ?_) (fun c1 => ?_)
      · exact k2 F bv _ _ _ _ (by omega) (by omega) hK hX
      · exact absurd (nI_lt (a := n) (b := m) (by omega) (by omega)) c1
    | succ r ih =>
      intro m F bv bc bs hm h1 hb hs9 hK hX
      have hm4 : m ≤ 40 := by omega
      have hdm := hdN m (by omega)
      refine AF.less (d' := 14) (bc' := r + 1166) (bs' := 6 * r + 6996) ?_ (Nat.le_refl _) (by omega) (by omega)
      have go : ∀ F bv, fovP Y.1 (m - 1) = false → LK G c Y B bv F → XF c bv0 bv F0 F → AF G mL_isWhole 14 (r + 1166) (6 * r + 6996) (LR (LK G c Y B) c bv0 F0 (.int 1)) F 145 [some (.ref c), some (.ref b), some (.int (nI k)), some (.int x), some (.int (nI n)), some (.int (nI (dem (nxN Y.1 n).J))), some (.int 1), some (.int (ovl Y.1 n)), some (.int 1), some (.int (nI m))] [] := by
        intro F bv hf hK hX
        have hf := of_decide_eq_false hf
        rw [show m - 1 + 1 = m by omega] at hf
        refine AF.iload dL_isWhole_145 rfl ?_
        refine AF.aload_n dL_isWhole_147 rfl ?_
        refine AF.iload dL_isWhole_148 rfl ?_
        refine AF.lx (mc' := 1) (ms' := 6) (bc := r + 1165) (bs := 6 * r + 6990) dL_isWhole_150 kx_L_195 (W_demandAfter hK ha (by omega) hm4) hX rfl rfl (Nat.le_of_ble_eq_true rfl) (by decide) rfl (fun F bv hK hX => ?_)
        refine AF.aload_n dL_isWhole_153 rfl ?_
        refine AF.lv (mc' := 0) (ms' := 0) (bc := r + 1165) (bs := 6 * r + 6990) dL_isWhole_154 kv_L_297 (Y_capacity hK) hK.c0.choose_spec rfl hX rfl rfl (Nat.le_of_ble_eq_true rfl) (by decide) rfl (fun F bv hK hX => ?_)
        refine AF.icmp_gt 164 dL_isWhole_157 (by decide) (fun c2 => ?_) (fun c2 => ?_)
        · rw [nI_ltI (by omega) (by omega)] at c2; omega
        · refine AF.iconst (1) dL_isWhole_160 (by decide) ?_
          refine AF.goto 165 dL_isWhole_161 (by decide) ?_
          refine AF.iand dL_isWhole_165 ?_
          rw [show (1 : Int32) &&& 1 = 1 from by decide]
          refine AF.istore dL_isWhole_166 (by decide) ?_
          refine AF.inc1 dL_isWhole_168 rfl (by decide) ?_
          refine AF.goto 121 dL_isWhole_171 (by decide) ?_
          exact ih (m + 1) F bv _ _ (by omega) (by omega) (by omega) (by omega) hK hX
      refine AF.iload dL_isWhole_121 rfl ?_
      refine AF.iload dL_isWhole_123 rfl ?_
      refine AF.icmp_gt 174 dL_isWhole_125 (by decide) (fun c1 => ?_) (fun c1 => ?_)
      · rw [nI_ltI (by omega) (by omega)] at c1; omega
      · cases e : fov Y.1 n with
        | none =>
          have eo : ovl Y.1 n = -7500 := by unfold ovl; rw [e]
          have go := go F bv (fnd_no e (m - 1) (by omega)) hK hX
          rw [eo] at go ⊢
          refine AF.iload dL_isWhole_128 rfl ?_
          refine AF.iload dL_isWhole_130 rfl ?_
          refine AF.if_le 140 dL_isWhole_132 (by decide) (fun c2 => ?_) (fun c2 => ?_)
          · refine AF.bipush (nI 41) dL_isWhole_140 (by decide) ?_
            refine AF.icmp_ge 174 dL_isWhole_142 (by decide) (fun c3 => ?_) (fun c3 => ?_)
            · rw [nI_leI (by omega) (by omega)] at c3; omega
            · exact go
          · exact absurd (by decide) c2
        | some z =>
          have eo : ovl Y.1 n = nI (z + 1) := by unfold ovl; rw [e]
          obtain ⟨hz, -⟩ := fnd_spec e
          by_cases hmz : m < z + 1
          · have go := go F bv (fnd_first e (m - 1) (by omega)) hK hX
            rw [eo] at go ⊢
            refine AF.iload dL_isWhole_128 rfl ?_
            refine AF.iload dL_isWhole_130 rfl ?_
            refine AF.if_le 140 dL_isWhole_132 (by decide) (fun c2 => ?_) (fun c2 => ?_)
            · exact absurd c2 (nI_nle (by omega) (by omega))
            · refine AF.iload dL_isWhole_135 rfl ?_
              refine AF.goto 142 dL_isWhole_137 (by decide) ?_
              refine AF.icmp_ge 174 dL_isWhole_142 (by decide) (fun c3 => ?_) (fun c3 => ?_)
              · rw [nI_leI (by omega) (by omega)] at c3; omega
              · exact go
          · rw [eo]
            refine AF.iload dL_isWhole_128 rfl ?_
            refine AF.iload dL_isWhole_130 rfl ?_
            refine AF.if_le 140 dL_isWhole_132 (by decide) (fun c2 => ?_) (fun c2 => ?_)
            · exact absurd c2 (nI_nle (by omega) (by omega))
            · refine AF.iload dL_isWhole_135 rfl ?_
              refine AF.goto 142 dL_isWhole_137 (by decide) ?_
              refine AF.icmp_ge 174 dL_isWhole_142 (by decide) (fun c3 => ?_) (fun c3 => ?_)
              · rw [← eo]
                exact k2 F bv _ _ _ _ (by omega) (by omega) hK hX
              · rw [nI_leI (by omega) (by omega)] at c3; omega
  -- at 58
  have k1 : ∀ F bv bc bs l6 l7 l8 l9, 1208 ≤ bc → 7248 ≤ bs → LK G c Y B bv F → XF c bv0 bv F0 F → AF G mL_isWhole 14 bc bs (LR (LK G c Y B) c bv0 F0 (.int 1)) F 58 [some (.ref c), some (.ref b), some (.int (nI k)), some (.int x), some (.int (nI n)), some (.int (nI (dem (nxN Y.1 n).J))), l6, l7, l8, l9] [] := by
    intro F bv bc bs l6 l7 l8 l9 hb hs9 hK hX
    refine AF.less (d' := 14) (bc' := 1208) (bs' := 7248) ?_ (Nat.le_refl _) (by omega) (by omega)
    refine AF.iconst (1) dL_isWhole_58 (by decide) ?_
    refine AF.goto 63 dL_isWhole_59 (by decide) ?_
    refine AF.istore dL_isWhole_63 (by decide) ?_
    refine AF.iload_n dL_isWhole_65 rfl ?_
    refine AF.if_eq 196 dL_isWhole_66 (by decide) (fun c1 => ?_) (fun c1 => ?_)
    · exact k3 F bv _ _ _ l7 l8 l9 (by omega) (by omega) hK hX
    · refine AF.aload_n dL_isWhole_69 rfl ?_
      refine AF.iload dL_isWhole_70 rfl ?_
      refine AF.lx (mc' := 2) (ms' := 12) (bc := 1206) (bs := 7236) dL_isWhole_72 kx_L_213 (W_firstOverload hK ha (by omega) hn4) hX rfl rfl (Nat.le_of_ble_eq_true rfl) (by decide) rfl (fun F bv hK hX => ?_)
      cases e : fov Y.1 n with
      | none =>
        have eo : ovl Y.1 n = -7500 := by unfold ovl; rw [e]
        have lp := fun F bv bc bs => lp n 1 F bv bc bs (by omega) (by omega)
        rw [eo] at lp ⊢
        refine AF.istore dL_isWhole_75 (by decide) ?_
        refine AF.iload dL_isWhole_77 rfl ?_
        refine AF.sipush (-7500) dL_isWhole_79 (by decide) ?_
        refine AF.icmp_eq 111 dL_isWhole_82 (by decide) (fun c2 => ?_) (fun c2 => ?_)
        · refine AF.iconst (nI 1) dL_isWhole_111 (by decide) ?_
          refine AF.goto 116 dL_isWhole_112 (by decide) ?_
          refine AF.istore dL_isWhole_116 (by decide) ?_
          refine AF.iconst (nI 1) dL_isWhole_118 (by decide) ?_
          refine AF.istore dL_isWhole_119 (by decide) ?_
          exact lp F bv _ _ (by omega) (by omega) hK hX
        · exact absurd rfl c2
      | some z =>
        have eo : ovl Y.1 n = nI (z + 1) := by unfold ovl; rw [e]
        obtain ⟨hz, hf⟩ := fnd_spec e
        have hf := of_decide_eq_true hf
        have hdz := hdN (z + 1) (by omega)
        have lp := fun F bv bc bs => lp n 1 F bv bc bs (by omega) (by omega)
        rw [eo] at lp ⊢
        refine AF.istore dL_isWhole_75 (by decide) ?_
        refine AF.iload dL_isWhole_77 rfl ?_
        refine AF.sipush (-7500) dL_isWhole_79 (by decide) ?_
        refine AF.icmp_eq 111 dL_isWhole_82 (by decide) (fun c2 => ?_) (fun c2 => ?_)
        · exfalso
          have h9 := nI_toInt (n := z + 1) (by omega)
          rw [c2] at h9
          rw [show (-7500 : Int32).toInt = -7500 from by decide] at h9
          omega
        · refine AF.aload_n dL_isWhole_85 rfl ?_
          refine AF.iload dL_isWhole_86 rfl ?_
          refine AF.lx (mc' := 1) (ms' := 6) (bc := 1205) (bs := 7230) dL_isWhole_88 kx_L_195 (W_demandAfter hK ha (by omega) (n := z + 1) (by omega)) hX rfl rfl (Nat.le_of_ble_eq_true rfl) (by decide) rfl (fun F bv hK hX => ?_)
          refine AF.aload_n dL_isWhole_91 rfl ?_
          refine AF.lv (mc' := 0) (ms' := 0) (bc := 1205) (bs := 7230) dL_isWhole_92 kv_L_297 (Y_capacity hK) hK.c0.choose_spec rfl hX rfl rfl (Nat.le_of_ble_eq_true rfl) (by decide) rfl (fun F bv hK hX => ?_)
          refine AF.icmp_le 115 dL_isWhole_95 (by decide) (fun c3 => ?_) (fun c3 => ?_)
          · rw [nI_leI (by omega) (by omega)] at c3; omega
          · refine AF.iload dL_isWhole_98 rfl ?_
            refine AF.iconst (nI 1) dL_isWhole_100 (by decide) ?_
            refine AF.icmp_lt 115 dL_isWhole_101 (by decide) (fun c4 => ?_) (fun c4 => ?_)
            · rw [nI_ltI (by omega) (by omega)] at c4; omega
            · refine AF.iload dL_isWhole_104 rfl ?_
              refine AF.iload dL_isWhole_106 rfl ?_
              refine AF.icmp_gt 115 dL_isWhole_108 (by decide) (fun c5 => ?_) (fun c5 => ?_)
              · rw [nI_ltI (by omega) (by omega)] at c5; omega
              · refine AF.iconst (nI 1) dL_isWhole_111 (by decide) ?_
                refine AF.goto 116 dL_isWhole_112 (by decide) ?_
                refine AF.istore dL_isWhole_116 (by decide) ?_
                refine AF.iconst (nI 1) dL_isWhole_118 (by decide) ?_
                refine AF.istore dL_isWhole_119 (by decide) ?_
                exact lp F bv _ _ (by omega) (by omega) hK hX
  refine AC.of [some (.ref c), some (.ref b), some (.int (nI k)), some (.int x), none, none, none, none, none, none] rfl (by decide) (Nat.le_of_ble_eq_true rfl) rfl ?_
  have hX : XF c bv0 bv0 F0 F0 := XF.rf
  have hK := hK0
  refine AF.aload_n dL_isWhole_0 rfl ?_
  refine AF.iload_n dL_isWhole_1 rfl ?_
  refine AF.iconst (nI 1) dL_isWhole_2 (by decide) ?_
  refine AF.iadd dL_isWhole_3 ?_
  rw [nI_add]
  refine AF.bipush (nI 41) dL_isWhole_4 (by decide) ?_
  refine AF.s1 dL_isWhole_6 kv_L_188 ((L_pick_ok hs hL (k + 1) 41 (by omega) (by decide) (by decide))) rfl rfl (Nat.le_of_ble_eq_true rfl) (by decide) rfl ?_
  rw [← hn]
  refine AF.istore dL_isWhole_9 (by decide) ?_
  refine AF.aload_n dL_isWhole_11 rfl ?_
  refine AF.iload dL_isWhole_12 rfl ?_
  refine AF.lx (mc' := 1) (ms' := 6) (bc := 1210) (bs := 7260) dL_isWhole_14 kx_L_195 (W_demandAfter hK ha (by omega) hn4) hX rfl rfl (Nat.le_of_ble_eq_true rfl) (by decide) rfl (fun F bv hK hX => ?_)
  refine AF.istore dL_isWhole_17 (by decide) ?_
  refine AF.aload_n dL_isWhole_19 rfl ?_
  refine AF.iload dL_isWhole_20 rfl ?_
  refine AF.lx (mc' := 1) (ms' := 6) (bc := 1209) (bs := 7254) dL_isWhole_22 kx_L_367 (W_demandAfterBySteps hK hn4) hX rfl rfl (Nat.le_of_ble_eq_true rfl) (by decide) rfl (fun F bv hK hX => ?_)
  refine AF.iload dL_isWhole_25 rfl ?_
  refine AF.icmp_ne 62 dL_isWhole_27 (by decide) (fun c1 => ?_) (fun c1 => ?_)
  · exact absurd rfl c1
  · refine AF.aload_n dL_isWhole_30 rfl ?_
    refine AF.iconst (nI 0) dL_isWhole_31 (by decide) ?_
    refine AF.lx (mc' := 1) (ms' := 6) (bc := 1208) (bs := 7248) dL_isWhole_32 kx_L_195 (W_demandAfter hK ha (by omega) (n := 0) (by omega)) hX rfl rfl (Nat.le_of_ble_eq_true rfl) (by decide) rfl (fun F bv hK hX => ?_)
    refine AF.aload_n dL_isWhole_35 rfl ?_
    refine AF.lv (mc' := 0) (ms' := 0) (bc := 1208) (bs := 7248) dL_isWhole_36 kv_L_192 (Y_demand hK) hK.c0.choose_spec rfl hX rfl rfl (Nat.le_of_ble_eq_true rfl) (by decide) rfl (fun F bv hK hX => ?_)
    refine AF.icmp_ne 62 dL_isWhole_39 (by decide) (fun c2 => ?_) (fun c2 => ?_)
    · exact absurd rfl c2
    · refine AF.aload_n dL_isWhole_42 rfl ?_
      refine AF.lv (mc' := 0) (ms' := 0) (bc := 1208) (bs := 7248) dL_isWhole_43 kv_L_203 (Y_queueLength hK) hK.c0.choose_spec rfl hX rfl rfl (Nat.le_of_ble_eq_true rfl) (by decide) rfl (fun F bv hK hX => ?_)
      refine AF.if_gt 58 dL_isWhole_46 (by decide) (fun c3 => ?_) (fun c3 => ?_)
      · exact k1 F bv _ _ none none none none (by omega) (by omega) hK hX
      · have h0 : Y.1.E = [] := by
          rw [← List.length_eq_zero_iff]
          have c3 : ¬ nI 0 < nI Y.1.E.length := c3
          rw [nI_ltI (by omega) (by omega)] at c3
          omega
        refine AF.iload dL_isWhole_49 rfl ?_
        refine AF.aload_n dL_isWhole_51 rfl ?_
        refine AF.lv (mc' := 0) (ms' := 0) (bc := 1208) (bs := 7248) dL_isWhole_52 kv_L_192 (Y_demand hK) hK.c0.choose_spec rfl hX rfl rfl (Nat.le_of_ble_eq_true rfl) (by decide) rfl (fun F bv hK hX => ?_)
        refine AF.icmp_ne 62 dL_isWhole_55 (by decide) (fun c4 => ?_) (fun c4 => ?_)
        · exact absurd (by rw [(nxN_idle h0 n).2]) c4
        · exact k1 F bv _ _ none none none none (by omega) (by omega) hK hX
end

