/-! The law's sum. -/
def sJ (J : List Jt) (v : Int64) : Nat → Int64
  | 0 => v
  | j + 1 => 31 * sJ J v j + 31 * (nI (jp J j)).toInt64 + (nI (jo J j)).toInt64
def sC (T : List Int32) (v : Int64) : Nat → Int64
  | 0 => v
  | k + 1 => 31 * sC T v k + (T.getD k 0).toInt64
abbrev wrA (L : List Sp) : List Int32 := wrF L L.length
def sF (Fg : List (List Sp)) (v : Int64) : Nat → Int64
  | 0 => v
  | i + 1 => sC (wrA (fg Fg i)) (31 * sF Fg v i + (nI (wrA (fg Fg i)).length).toInt64) (wrA (fg Fg i)).length
def sE (E : List En) (v : Int64) : Nat → Int64
  | 0 => v
  | e + 1 => 31 * sE E v e + 1009 * (nI (en E e).2).toInt64 + (nI (en E e).1).toInt64
def s0V (σ : Sg) : Int64 := 31 * (31 * (31 * (nI σ.bt).toInt64 + (nI σ.cap).toInt64) + 101 * nL σ.pum + nL σ.sht) + σ.w.toInt64
def s1V (σ : Sg) : Int64 := sJ σ.J (s0V σ) σ.J.length
def s2V (σ : Sg) : Int64 := sF σ.Fg (s1V σ) σ.Fg.length
def sumV (σ : Sg) : Int64 := sE σ.E (s2V σ) σ.E.length
section
variable {G : GA} {F0 : AH} {c bv0 B : Nat} {Y : YS}
set_option maxRecDepth 100000 in
set_option maxHeartbeats 4000000 in
theorem L_sum_ok (hK0 : LK G c Y B bv0 F0) (ha : gN G ≤ c) : AC G mL_sum 13 642 37172 [.ref c] F0 (LR (LK G c Y B) c bv0 F0 (.long (sumV Y.1))) := by
  have hq := hK0.q
  have q1 := hq.2.2.1
  have q2 := hq.2.2.2.1
  have q3 := hq.2.2.2.2.2
  have lp3 : ∀ r e F bv bc bs l4 l5, e + r = Y.1.E.length → 2 * r ≤ bc → 12 * r ≤ bs → LK G c Y B bv F → XF c bv0 bv F0 F → AF G mL_sum 13 bc bs (LR (LK G c Y B) c bv0 F0 (.long (sumV Y.1))) F 153 [some (.ref c), some (.long (sE Y.1.E (s2V Y.1) e)), none, some (.int (nI e)), l4, l5] [] := by
    intro r
    induction r with
    | zero =>
      intro e F bv bc bs l4 l5 he hb hs hK hX
      refine AF.less (d' := 13) (bc' := 0) (bs' := 0) ?_ (Nat.le_refl _) (Nat.zero_le _) (Nat.zero_le _)
      refine AF.iload_n dL_sum_153 rfl ?_
      refine AF.aload_n dL_sum_154 rfl ?_
      refine AF.lv (mc' := 0) (ms' := 0) (bc := 0) (bs := 0) dL_sum_155 kv_L_203 (Y_queueLength hK) hK.c0.choose_spec rfl hX rfl rfl (Nat.le_of_ble_eq_true rfl) (by decide) rfl (fun F bv hK hX => ?_)
      refine AF.icmp_ge 191 dL_sum_158 (by decide) (fun c1 => ?_) (fun c1 => ?_)
      · refine AF.lload_n dL_sum_191 rfl ?_
        rw [show e = Y.1.E.length by omega]
        exact AF.lreturn dL_sum_192 rfl ⟨rfl, bv, hK, hX⟩
      · exact absurd (nI_le (a := Y.1.E.length) (b := e) (by omega) (by omega)) c1
    | succ r ih =>
      intro e F bv bc bs l4 l5 he hb hs hK hX
      refine AF.less (d' := 13) (bc' := 2 * r + 2) (bs' := 12 * r + 12) ?_ (Nat.le_refl _) (by omega) (by omega)
      refine AF.iload_n dL_sum_153 rfl ?_
      refine AF.aload_n dL_sum_154 rfl ?_
      refine AF.lv (mc' := 0) (ms' := 0) (bc := 2 * r + 2) (bs := 12 * r + 12) dL_sum_155 kv_L_203 (Y_queueLength hK) hK.c0.choose_spec rfl hX rfl rfl (Nat.le_of_ble_eq_true rfl) (by decide) rfl (fun F bv hK hX => ?_)
      refine AF.icmp_ge 191 dL_sum_158 (by decide) (fun c1 => ?_) (fun c1 => ?_)
      · rw [nI_leI (by omega) (by omega)] at c1; omega
      · refine AF.ldc2J dL_sum_161 kl_L_295 ?_
        refine AF.lload_n dL_sum_164 rfl ?_
        refine AF.lmul dL_sum_165 ?_
        refine AF.ldc2J dL_sum_166 kl_L_311 ?_
        refine AF.aload_n dL_sum_169 rfl ?_
        refine AF.iload_n dL_sum_170 rfl ?_
        refine AF.lx (mc' := 1) (ms' := 6) (bc := 2 * r + 1) (bs := 12 * r + 6) dL_sum_171 kx_L_313 (W_entryStart hK (show e < Y.1.E.length by omega)) hX rfl rfl (Nat.le_of_ble_eq_true rfl) (by decide) rfl (fun F bv hK hX => ?_)
        refine AF.i2l dL_sum_174 ?_
        refine AF.lmul dL_sum_175 ?_
        refine AF.ladd dL_sum_176 ?_
        refine AF.aload_n dL_sum_177 rfl ?_
        refine AF.iload_n dL_sum_178 rfl ?_
        refine AF.lx (mc' := 1) (ms' := 6) (bc := 2 * r) (bs := 12 * r) dL_sum_179 kx_L_315 (W_entryFigure hK (show e < Y.1.E.length by omega)) hX rfl rfl (Nat.le_of_ble_eq_true rfl) (by decide) rfl (fun F bv hK hX => ?_)
        refine AF.i2l dL_sum_182 ?_
        refine AF.ladd dL_sum_183 ?_
        refine AF.lstore_n dL_sum_184 (by decide) ?_
        refine AF.inc1 dL_sum_185 rfl (by decide) ?_
        refine AF.goto 153 dL_sum_188 (by decide) ?_
        exact ih (e + 1) F bv _ _ l4 l5 (by omega) (Nat.le_refl _) (Nat.le_refl _) hK hX
  have lp2 : ∀ r i F bv bc bs l4 l5, i + r = Y.1.Fg.length → 122 * r + 12 ≤ bc → 7396 * r + 72 ≤ bs → LK G c Y B bv F → XF c bv0 bv F0 F → AF G mL_sum 13 bc bs (LR (LK G c Y B) c bv0 F0 (.long (sumV Y.1))) F 90 [some (.ref c), some (.long (sF Y.1.Fg (s1V Y.1) i)), none, some (.int (nI i)), l4, l5] [] := by
    intro r
    induction r with
    | zero =>
      intro i F bv bc bs l4 l5 hi hb hs hK hX
      refine AF.less (d' := 13) (bc' := 12) (bs' := 72) ?_ (Nat.le_refl _) (by omega) (by omega)
      refine AF.iload_n dL_sum_90 rfl ?_
      refine AF.aload_n dL_sum_91 rfl ?_
      refine AF.lv (mc' := 0) (ms' := 0) (bc := 12) (bs := 72) dL_sum_92 kv_L_233 (Y_figureCount hK) hK.c0.choose_spec rfl hX rfl rfl (Nat.le_of_ble_eq_true rfl) (by decide) rfl (fun F bv hK hX => ?_)
      refine AF.icmp_ge 151 dL_sum_95 (by decide) (fun c1 => ?_) (fun c1 => ?_)
      · refine AF.iconst (nI 0) dL_sum_151 (by decide) ?_
        refine AF.istore_n dL_sum_152 (by decide) ?_
        rw [show i = Y.1.Fg.length by omega]
        exact lp3 Y.1.E.length 0 F bv _ _ l4 l5 (by omega) (by omega) (by omega) hK hX
      · exact absurd (nI_le (a := Y.1.Fg.length) (b := i) (by omega) (by omega)) c1
    | succ r ih =>
      intro i F bv bc bs l4 l5 hi hb hs hK hX
      have hil : i < Y.1.Fg.length := by omega
      have hw : (wrA (fg Y.1.Fg i)).length + 1 ≤ 9 * (fg Y.1.Fg i).length + 1 := wrF_le _
      have h8 := hq.2.2.2.2.1 i hil
      refine AF.less (d' := 13) (bc' := 122 * r + 134) (bs' := 7396 * r + 7468) ?_ (Nat.le_refl _) (by omega) (by omega)
      refine AF.iload_n dL_sum_90 rfl ?_
      refine AF.aload_n dL_sum_91 rfl ?_
      refine AF.lv (mc' := 0) (ms' := 0) (bc := 122 * r + 134) (bs := 7396 * r + 7468) dL_sum_92 kv_L_233 (Y_figureCount hK) hK.c0.choose_spec rfl hX rfl rfl (Nat.le_of_ble_eq_true rfl) (by decide) rfl (fun F bv hK hX => ?_)
      refine AF.icmp_ge 151 dL_sum_95 (by decide) (fun c1 => ?_) (fun c1 => ?_)
      · rw [nI_leI (by omega) (by omega)] at c1; omega
      · refine AF.aload_n dL_sum_98 rfl ?_
        refine AF.iload_n dL_sum_99 rfl ?_
        refine AF.lx (mc' := 50) (ms' := 6964) (bc := 122 * r + 84) (bs := 7396 * r + 504) dL_sum_100 kx_L_309 (W_writeFigure hK ha hil) hX rfl rfl (Nat.le_of_ble_eq_true rfl) (by decide) rfl (fun F bv hK hX => ?_)
        refine AF.istore dL_sum_103 (by decide) ?_
        refine AF.ldc2J dL_sum_105 kl_L_295 ?_
        refine AF.lload_n dL_sum_108 rfl ?_
        refine AF.lmul dL_sum_109 ?_
        refine AF.iload dL_sum_110 rfl ?_
        refine AF.i2l dL_sum_112 ?_
        refine AF.ladd dL_sum_113 ?_
        refine AF.lstore_n dL_sum_114 (by decide) ?_
        refine AF.iconst (nI 0) dL_sum_115 (by decide) ?_
        refine AF.istore dL_sum_116 (by decide) ?_
        have lp : ∀ z k F bv bc bs, k + z = (wrA (fg Y.1.Fg i)).length → 122 * r + 12 + z ≤ bc → 7396 * r + 72 + 6 * z ≤ bs → LKo G c Y B (wrA (fg Y.1.Fg i)) bv F → XF c bv0 bv F0 F → AF G mL_sum 13 bc bs (LR (LK G c Y B) c bv0 F0 (.long (sumV Y.1))) F 118 [some (.ref c), some (.long (sC (wrA (fg Y.1.Fg i)) (31 * sF Y.1.Fg (s1V Y.1) i + (nI (wrA (fg Y.1.Fg i)).length).toInt64) k)), none, some (.int (nI i)), some (.int (nI (wrA (fg Y.1.Fg i)).length)), some (.int (nI k))] [] := by
          intro z
          induction z with
          | zero =>
            intro k F bv bc bs hk hb hs hK hX
            refine AF.iload dL_sum_118 rfl ?_
            refine AF.iload dL_sum_120 rfl ?_
            refine AF.icmp_ge 145 dL_sum_122 (by decide) (fun c2 => ?_) (fun c2 => ?_)
            · refine AF.inc1 dL_sum_145 rfl (by decide) ?_
              refine AF.goto 90 dL_sum_148 (by decide) ?_
              rw [show k = (wrA (fg Y.1.Fg i)).length by omega]
              exact ih (i + 1) F bv bc bs _ _ (by omega) (by omega) (by omega) hK.lk hX
            · exact absurd (nI_le (a := (wrA (fg Y.1.Fg i)).length) (b := k) (by omega) (by omega)) c2
          | succ z ih2 =>
            intro k F bv bc bs hk hb hs hK hX
            refine AF.less (d' := 13) (bc' := 122 * r + z + 13) (bs' := 7396 * r + 6 * z + 78) ?_ (Nat.le_refl _) (by omega) (by omega)
            refine AF.iload dL_sum_118 rfl ?_
            refine AF.iload dL_sum_120 rfl ?_
            refine AF.icmp_ge 145 dL_sum_122 (by decide) (fun c2 => ?_) (fun c2 => ?_)
            · rw [nI_leI (by omega) (by omega)] at c2; omega
            · refine AF.ldc2J dL_sum_125 kl_L_295 ?_
              refine AF.lload_n dL_sum_128 rfl ?_
              refine AF.lmul dL_sum_129 ?_
              refine AF.aload_n dL_sum_130 rfl ?_
              refine AF.iload dL_sum_131 rfl ?_
              refine AF.lx (mc' := 1) (ms' := 6) (bc := 122 * r + z + 12) (bs := 7396 * r + 6 * z + 72) dL_sum_133 kx_L_177 (W_outputCharacter hK (show k < (wrA (fg Y.1.Fg i)).length by omega)) hX rfl rfl (Nat.le_of_ble_eq_true rfl) (by decide) rfl (fun F bv hK hX => ?_)
              refine AF.i2l dL_sum_136 ?_
              refine AF.ladd dL_sum_137 ?_
              refine AF.lstore_n dL_sum_138 (by decide) ?_
              refine AF.inc1 dL_sum_139 rfl (by decide) ?_
              refine AF.goto 118 dL_sum_142 (by decide) ?_
              exact ih2 (k + 1) F bv _ _ (by omega) (by omega) (by omega) hK hX
        exact lp (wrA (fg Y.1.Fg i)).length 0 F bv _ _ (by omega) (by omega) (by omega) hK hX
  have lp1 : ∀ r j F bv bc bs l4 l5, j + r = Y.1.J.length → 2 * r + 622 ≤ bc → 12 * r + 37052 ≤ bs → LK G c Y B bv F → XF c bv0 bv F0 F → AF G mL_sum 13 bc bs (LR (LK G c Y B) c bv0 F0 (.long (sumV Y.1))) F 50 [some (.ref c), some (.long (sJ Y.1.J (s0V Y.1) j)), none, some (.int (nI j)), l4, l5] [] := by
    intro r
    induction r with
    | zero =>
      intro j F bv bc bs l4 l5 hj hb hs hK hX
      refine AF.less (d' := 13) (bc' := 622) (bs' := 37052) ?_ (Nat.le_refl _) (by omega) (by omega)
      refine AF.iload_n dL_sum_50 rfl ?_
      refine AF.aload_n dL_sum_51 rfl ?_
      refine AF.lv (mc' := 0) (ms' := 0) (bc := 622) (bs := 37052) dL_sum_52 kv_L_230 (Y_jetCount hK) hK.c0.choose_spec rfl hX rfl rfl (Nat.le_of_ble_eq_true rfl) (by decide) rfl (fun F bv hK hX => ?_)
      refine AF.icmp_ge 88 dL_sum_55 (by decide) (fun c1 => ?_) (fun c1 => ?_)
      · refine AF.iconst (nI 0) dL_sum_88 (by decide) ?_
        refine AF.istore_n dL_sum_89 (by decide) ?_
        rw [show j = Y.1.J.length by omega]
        exact lp2 Y.1.Fg.length 0 F bv _ _ l4 l5 (by omega) (by omega) (by omega) hK hX
      · exact absurd (nI_le (a := Y.1.J.length) (b := j) (by omega) (by omega)) c1
    | succ r ih =>
      intro j F bv bc bs l4 l5 hj hb hs hK hX
      have hjl : j < Y.1.J.length := by omega
      refine AF.less (d' := 13) (bc' := 2 * r + 624) (bs' := 12 * r + 37064) ?_ (Nat.le_refl _) (by omega) (by omega)
      refine AF.iload_n dL_sum_50 rfl ?_
      refine AF.aload_n dL_sum_51 rfl ?_
      refine AF.lv (mc' := 0) (ms' := 0) (bc := 2 * r + 624) (bs := 12 * r + 37064) dL_sum_52 kv_L_230 (Y_jetCount hK) hK.c0.choose_spec rfl hX rfl rfl (Nat.le_of_ble_eq_true rfl) (by decide) rfl (fun F bv hK hX => ?_)
      refine AF.icmp_ge 88 dL_sum_55 (by decide) (fun c1 => ?_) (fun c1 => ?_)
      · rw [nI_leI (by omega) (by omega)] at c1; omega
      · refine AF.ldc2J dL_sum_58 kl_L_295 ?_
        refine AF.lload_n dL_sum_61 rfl ?_
        refine AF.lmul dL_sum_62 ?_
        refine AF.ldc2J dL_sum_63 kl_L_295 ?_
        refine AF.aload_n dL_sum_66 rfl ?_
        refine AF.iload_n dL_sum_67 rfl ?_
        refine AF.lx (mc' := 1) (ms' := 6) (bc := 2 * r + 623) (bs := 12 * r + 37058) dL_sum_68 kx_L_305 (W_position hK hjl) hX rfl rfl (Nat.le_of_ble_eq_true rfl) (by decide) rfl (fun F bv hK hX => ?_)
        refine AF.i2l dL_sum_71 ?_
        refine AF.lmul dL_sum_72 ?_
        refine AF.ladd dL_sum_73 ?_
        refine AF.aload_n dL_sum_74 rfl ?_
        refine AF.iload_n dL_sum_75 rfl ?_
        refine AF.lx (mc' := 1) (ms' := 6) (bc := 2 * r + 622) (bs := 12 * r + 37052) dL_sum_76 kx_L_307 (W_opening hK hjl) hX rfl rfl (Nat.le_of_ble_eq_true rfl) (by decide) rfl (fun F bv hK hX => ?_)
        refine AF.i2l dL_sum_79 ?_
        refine AF.ladd dL_sum_80 ?_
        refine AF.lstore_n dL_sum_81 (by decide) ?_
        refine AF.inc1 dL_sum_82 rfl (by decide) ?_
        refine AF.goto 50 dL_sum_85 (by decide) ?_
        exact ih (j + 1) F bv _ _ l4 l5 (by omega) (Nat.le_refl _) (Nat.le_refl _) hK hX
  refine AC.of [some (.ref c), none, none, none, none, none] rfl (by decide) (Nat.le_of_ble_eq_true rfl) rfl ?_
  have hX : XF c bv0 bv0 F0 F0 := XF.rf
  have hK := hK0
  refine AF.ldc2J dL_sum_0 kl_L_295 ?_
  refine AF.aload_n dL_sum_3 rfl ?_
  refine AF.lv (mc' := 0) (ms' := 0) (bc := 642) (bs := 37172) dL_sum_4 kv_L_200 (Y_beat hK) hK.c0.choose_spec rfl hX rfl rfl (Nat.le_of_ble_eq_true rfl) (by decide) rfl (fun F bv hK hX => ?_)
  refine AF.i2l dL_sum_7 ?_
  refine AF.lmul dL_sum_8 ?_
  refine AF.aload_n dL_sum_9 rfl ?_
  refine AF.lv (mc' := 0) (ms' := 0) (bc := 642) (bs := 37172) dL_sum_10 kv_L_297 (Y_capacity hK) hK.c0.choose_spec rfl hX rfl rfl (Nat.le_of_ble_eq_true rfl) (by decide) rfl (fun F bv hK hX => ?_)
  refine AF.i2l dL_sum_13 ?_
  refine AF.ladd dL_sum_14 ?_
  refine AF.lstore_n dL_sum_15 (by decide) ?_
  refine AF.ldc2J dL_sum_16 kl_L_295 ?_
  refine AF.lload_n dL_sum_19 rfl ?_
  refine AF.lmul dL_sum_20 ?_
  refine AF.ldc2J dL_sum_21 kl_L_300 ?_
  refine AF.aload_n dL_sum_24 rfl ?_
  refine AF.lv (mc' := 0) (ms' := 0) (bc := 642) (bs := 37172) dL_sum_25 kv_L_206 (Y_pumped hK) hK.c0.choose_spec rfl hX rfl rfl (Nat.le_of_ble_eq_true rfl) (by decide) rfl (fun F bv hK hX => ?_)
  refine AF.lmul dL_sum_28 ?_
  refine AF.ladd dL_sum_29 ?_
  refine AF.aload_n dL_sum_30 rfl ?_
  refine AF.lv (mc' := 0) (ms' := 0) (bc := 642) (bs := 37172) dL_sum_31 kv_L_210 (Y_shortage hK) hK.c0.choose_spec rfl hX rfl rfl (Nat.le_of_ble_eq_true rfl) (by decide) rfl (fun F bv hK hX => ?_)
  refine AF.ladd dL_sum_34 ?_
  refine AF.lstore_n dL_sum_35 (by decide) ?_
  refine AF.ldc2J dL_sum_36 kl_L_295 ?_
  refine AF.lload_n dL_sum_39 rfl ?_
  refine AF.lmul dL_sum_40 ?_
  refine AF.aload_n dL_sum_41 rfl ?_
  refine AF.lv (mc' := 0) (ms' := 0) (bc := 642) (bs := 37172) dL_sum_42 kv_L_302 (Y_wind hK) hK.c0.choose_spec rfl hX rfl rfl (Nat.le_of_ble_eq_true rfl) (by decide) rfl (fun F bv hK hX => ?_)
  refine AF.i2l dL_sum_45 ?_
  refine AF.ladd dL_sum_46 ?_
  refine AF.lstore_n dL_sum_47 (by decide) ?_
  refine AF.iconst (nI 0) dL_sum_48 (by decide) ?_
  refine AF.istore_n dL_sum_49 (by decide) ?_
  exact lp1 Y.1.J.length 0 F bv _ _ none none (by omega) (by omega) (by omega) hK hX
end

