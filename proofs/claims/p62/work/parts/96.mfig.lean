/-! The law: figures and the queue. -/
theorem nI_max {a b : Nat} (ha : a < 2 ^ 31) (hb : b < 2 ^ 31) : (if nI a < nI b then nI b else nI a) = nI (if a < b then b else a) := by
  by_cases q : a < b
  · rw [if_pos q, if_pos ((nI_ltI ha hb).mpr q)]
  · rw [if_neg q, if_neg (fun z => q ((nI_ltI ha hb).mp z))]
theorem fln_20 {L : List Sp} (h : ∀ k, k < L.length → (g3 L k).1 ≤ 20) : ∀ n, n ≤ L.length → mxN (fun k => (g3 L k).1) n ≤ 20 := fun n hn => mxN_le n (fun j hj => h j (by omega))
/-- the beats until the queue is empty, as the law comes to them -/
def qE (σ : Sg) (e : Nat) : Nat := if σ.E.length = 0 then 0 else mx1 (bte σ) e
section
variable {G : GA} {F0 : AH} {c bv0 B : Nat} {Y : YS}
set_option maxRecDepth 100000 in
set_option maxHeartbeats 4000000 in
theorem L_areFigures_ok (hK0 : LK G c Y B bv0 F0) (ha : gN G ≤ c) : AC G mL_areFigures 13 443 2658 [.ref c] F0 (LR (LK G c Y B) c bv0 F0 (.int 1)) := by
  have hq := hK0.q
  have q1 := hq.2.2.1
  have q2 := hq.2.2.2.1
  have q3 := hq.2.2.2.2.2
  obtain ⟨-, -, hFI, hEn, hbt, -, -, hB2⟩ := id hq.1
  have lp3 : ∀ r e F bv bc bs l3 l4, e + r = Y.1.E.length → 3 * r ≤ bc → 18 * r ≤ bs → LK G c Y B bv F → XF c bv0 bv F0 F → AF G mL_areFigures 13 bc bs (LR (LK G c Y B) c bv0 F0 (.int 1)) F 188 [some (.ref c), some (.int (nI (qE Y.1 e))), some (.int (nI e)), l3, l4] [] := by
    intro r
    induction r with
    | zero =>
      intro e F bv bc bs l3 l4 he hb hs hK hX
      refine AF.less (d' := 13) (bc' := 0) (bs' := 0) ?_ (Nat.le_refl _) (Nat.zero_le _) (Nat.zero_le _)
      have e9 : e = Y.1.E.length := by omega
      subst e9
      refine AF.iload_n dL_areFigures_188 rfl ?_
      refine AF.aload_n dL_areFigures_189 rfl ?_
      refine AF.lv (mc' := 0) (ms' := 0) (bc := 0) (bs := 0) dL_areFigures_190 kv_L_203 (Y_queueLength hK) hK.c0.choose_spec rfl hX rfl rfl (Nat.le_of_ble_eq_true rfl) (by decide) rfl (fun F bv hK hX => ?_)
      refine AF.icmp_ge 227 dL_areFigures_193 (by decide) (fun c1 => ?_) (fun c1 => ?_)
      · refine AF.aload_n dL_areFigures_227 rfl ?_
        refine AF.lv (mc' := 0) (ms' := 0) (bc := 0) (bs := 0) dL_areFigures_228 kv_L_197 (Y_beatsUntilEmpty hK) hK.c0.choose_spec rfl hX rfl rfl (Nat.le_of_ble_eq_true rfl) (by decide) rfl (fun F bv hK hX => ?_)
        refine AF.iload_n dL_areFigures_231 rfl ?_
        refine AF.icmp_ne 256 dL_areFigures_232 (by decide) (fun c2 => ?_) (fun c2 => ?_)
        · exact absurd rfl c2
        · refine AF.aload_n dL_areFigures_235 rfl ?_
          refine AF.lv (mc' := 0) (ms' := 0) (bc := 0) (bs := 0) dL_areFigures_236 kv_L_203 (Y_queueLength hK) hK.c0.choose_spec rfl hX rfl rfl (Nat.le_of_ble_eq_true rfl) (by decide) rfl (fun F bv hK hX => ?_)
          refine AF.bipush (6) dL_areFigures_239 (by decide) ?_
          refine AF.icmp_gt 256 dL_areFigures_241 (by decide) (fun c3 => ?_) (fun c3 => ?_)
          · have c3 : nI 6 < nI Y.1.E.length := c3
            rw [nI_ltI (by omega) (by omega)] at c3; omega
          · refine AF.aload_n dL_areFigures_244 rfl ?_
            refine AF.lv (mc' := 0) (ms' := 0) (bc := 0) (bs := 0) dL_areFigures_245 kv_L_233 (Y_figureCount hK) hK.c0.choose_spec rfl hX rfl rfl (Nat.le_of_ble_eq_true rfl) (by decide) rfl (fun F bv hK hX => ?_)
            refine AF.iconst (nI 5) dL_areFigures_248 (by decide) ?_
            refine AF.icmp_gt 256 dL_areFigures_249 (by decide) (fun c4 => ?_) (fun c4 => ?_)
            · rw [nI_ltI (by omega) (by omega)] at c4; omega
            · refine AF.iconst (1) dL_areFigures_252 (by decide) ?_
              refine AF.goto 257 dL_areFigures_253 (by decide) ?_
              exact AF.zreturn dL_areFigures_257 rfl rfl ⟨rfl, bv, hK, hX⟩
      · exact absurd (nI_le (a := Y.1.E.length) (b := Y.1.E.length) (by omega) (by omega)) c1
    | succ r ih =>
      intro e F bv bc bs l3 l4 he hb hs hK hX
      have hel : e < Y.1.E.length := by omega
      obtain ⟨n1, n2⟩ := hEn e hel
      have hfl : fln (fg Y.1.Fg (en Y.1.E e).1) ≤ 20 := fln_le (fun k hk => (hFI _ k hk).1)
      have hm := mx1_le (g := bte Y.1) (b := 2 ^ 22) (by decide) e (fun j hj => by
        have := (hEn j (by omega)).2
        have : fln (fg Y.1.Fg (en Y.1.E j).1) ≤ 20 := fln_le (fun k hk => (hFI _ k hk).1)
        unfold bte; omega)
      have e0 : qE Y.1 e = mx1 (bte Y.1) e := if_neg (by omega)
      have e1 : qE Y.1 (e + 1) = if mx1 (bte Y.1) e < bte Y.1 e then bte Y.1 e else mx1 (bte Y.1) e := if_neg (by omega)
      refine AF.less (d' := 13) (bc' := 3 * r + 3) (bs' := 18 * r + 18) ?_ (Nat.le_refl _) (by omega) (by omega)
      refine AF.iload_n dL_areFigures_188 rfl ?_
      refine AF.aload_n dL_areFigures_189 rfl ?_
      refine AF.lv (mc' := 0) (ms' := 0) (bc := 3 * r + 3) (bs := 18 * r + 18) dL_areFigures_190 kv_L_203 (Y_queueLength hK) hK.c0.choose_spec rfl hX rfl rfl (Nat.le_of_ble_eq_true rfl) (by decide) rfl (fun F bv hK hX => ?_)
      refine AF.icmp_ge 227 dL_areFigures_193 (by decide) (fun c1 => ?_) (fun c1 => ?_)
      · rw [nI_leI (by omega) (by omega)] at c1; omega
      · refine AF.iload_n dL_areFigures_196 rfl ?_
        refine AF.aload_n dL_areFigures_197 rfl ?_
        refine AF.iload_n dL_areFigures_198 rfl ?_
        refine AF.lx (mc' := 1) (ms' := 6) (bc := 3 * r + 2) (bs := 18 * r + 12) dL_areFigures_199 kx_L_313 (W_entryStart hK hel) hX rfl rfl (Nat.le_of_ble_eq_true rfl) (by decide) rfl (fun F bv hK hX => ?_)
        refine AF.aload_n dL_areFigures_202 rfl ?_
        refine AF.aload_n dL_areFigures_203 rfl ?_
        refine AF.iload_n dL_areFigures_204 rfl ?_
        refine AF.lx (mc' := 1) (ms' := 6) (bc := 3 * r + 1) (bs := 18 * r + 6) dL_areFigures_205 kx_L_315 (W_entryFigure hK hel) hX rfl rfl (Nat.le_of_ble_eq_true rfl) (by decide) rfl (fun F bv hK hX => ?_)
        refine AF.lx (mc' := 1) (ms' := 6) (bc := 3 * r) (bs := 18 * r) dL_areFigures_208 kx_L_365 (W_figureLength hK n1) hX rfl rfl (Nat.le_of_ble_eq_true rfl) (by decide) rfl (fun F bv hK hX => ?_)
        refine AF.iadd dL_areFigures_211 ?_
        rw [nI_add]
        refine AF.aload_n dL_areFigures_212 rfl ?_
        refine AF.lv (mc' := 0) (ms' := 0) (bc := 3 * r) (bs := 18 * r) dL_areFigures_213 kv_L_200 (Y_beat hK) hK.c0.choose_spec rfl hX rfl rfl (Nat.le_of_ble_eq_true rfl) (by decide) rfl (fun F bv hK hX => ?_)
        refine AF.isub dL_areFigures_216 ?_
        refine AF.max dL_areFigures_217 km_L_358 (Nat.le_of_ble_eq_true rfl) (by decide) ?_
        rw [e0, max_sub hm.1 (by omega) (by omega) (by omega)]
        refine AF.istore_n dL_areFigures_220 (by decide) ?_
        refine AF.inc1 dL_areFigures_221 rfl (by decide) ?_
        refine AF.goto 188 dL_areFigures_224 (by decide) ?_
        have ih := ih (e + 1) F bv _ _ l3 l4 (by omega) (Nat.le_refl _) (Nat.le_refl _) hK hX
        rw [e1] at ih
        exact ih
  have mid : ∀ F bv bc bs l1 l2 l3 l4, 18 ≤ bc → 108 ≤ bs → LK G c Y B bv F → XF c bv0 bv F0 F → AF G mL_areFigures 13 bc bs (LR (LK G c Y B) c bv0 F0 (.int 1)) F 173 [some (.ref c), l1, l2, l3, l4] [] := by
    intro F bv bc bs l1 l2 l3 l4 hb hs hK hX
    refine AF.less (d' := 13) (bc' := 18) (bs' := 108) ?_ (Nat.le_refl _) (by omega) (by omega)
    refine AF.aload_n dL_areFigures_173 rfl ?_
    refine AF.lv (mc' := 0) (ms' := 0) (bc := 18) (bs := 108) dL_areFigures_174 kv_L_203 (Y_queueLength hK) hK.c0.choose_spec rfl hX rfl rfl (Nat.le_of_ble_eq_true rfl) (by decide) rfl (fun F bv hK hX => ?_)
    refine AF.if_ne 184 dL_areFigures_177 (by decide) (fun c1 => ?_) (fun c1 => ?_)
    · refine AF.iconst (nI 1) dL_areFigures_184 (by decide) ?_
      refine AF.istore_n dL_areFigures_185 (by decide) ?_
      refine AF.iconst (nI 0) dL_areFigures_186 (by decide) ?_
      refine AF.istore_n dL_areFigures_187 (by decide) ?_
      have h0 : qE Y.1 0 = 1 := if_neg (fun q => c1 (by rw [q]; rfl))
      have lp := lp3 Y.1.E.length 0 F bv 18 108 l3 l4 (by omega) (by omega) (by omega) hK hX
      rw [h0] at lp
      exact lp
    · refine AF.iconst (nI 0) dL_areFigures_180 (by decide) ?_
      refine AF.goto 185 dL_areFigures_181 (by decide) ?_
      refine AF.istore_n dL_areFigures_185 (by decide) ?_
      refine AF.iconst (nI 0) dL_areFigures_186 (by decide) ?_
      refine AF.istore_n dL_areFigures_187 (by decide) ?_
      have h0 : qE Y.1 0 = 0 := if_pos (by
        have c1 : nI Y.1.E.length = nI 0 := c1
        rwa [nI_eq (by omega) (by omega)] at c1)
      have lp := lp3 Y.1.E.length 0 F bv 18 108 l3 l4 (by omega) (by omega) (by omega) hK hX
      rw [h0] at lp
      exact lp
  have lp1 : ∀ r i F bv bc bs l2 l3 l4, i + r = Y.1.Fg.length → 85 * r + 18 ≤ bc → 510 * r + 108 ≤ bs → LK G c Y B bv F → XF c bv0 bv F0 F → AF G mL_areFigures 13 bc bs (LR (LK G c Y B) c bv0 F0 (.int 1)) F 2 [some (.ref c), some (.int (nI i)), l2, l3, l4] [] := by
    intro r
    induction r with
    | zero =>
      intro i F bv bc bs l2 l3 l4 hi hb hs hK hX
      refine AF.less (d' := 13) (bc' := 18) (bs' := 108) ?_ (Nat.le_refl _) (by omega) (by omega)
      refine AF.iload_n dL_areFigures_2 rfl ?_
      refine AF.aload_n dL_areFigures_3 rfl ?_
      refine AF.lv (mc' := 0) (ms' := 0) (bc := 18) (bs := 108) dL_areFigures_4 kv_L_233 (Y_figureCount hK) hK.c0.choose_spec rfl hX rfl rfl (Nat.le_of_ble_eq_true rfl) (by decide) rfl (fun F bv hK hX => ?_)
      refine AF.icmp_ge 173 dL_areFigures_7 (by decide) (fun c1 => ?_) (fun c1 => ?_)
      · exact mid F bv _ _ _ l2 l3 l4 (Nat.le_refl _) (Nat.le_refl _) hK hX
      · exact absurd (nI_le (a := Y.1.Fg.length) (b := i) (by omega) (by omega)) c1
    | succ r ih =>
      intro i F bv bc bs l2 l3 l4 hi hb hs hK hX
      have hil : i < Y.1.Fg.length := by omega
      have h8 := hq.2.2.2.2.1 i hil
      refine AF.less (d' := 13) (bc' := 85 * r + 103) (bs' := 510 * r + 618) ?_ (Nat.le_refl _) (by omega) (by omega)
      refine AF.iload_n dL_areFigures_2 rfl ?_
      refine AF.aload_n dL_areFigures_3 rfl ?_
      refine AF.lv (mc' := 0) (ms' := 0) (bc := 85 * r + 103) (bs := 510 * r + 618) dL_areFigures_4 kv_L_233 (Y_figureCount hK) hK.c0.choose_spec rfl hX rfl rfl (Nat.le_of_ble_eq_true rfl) (by decide) rfl (fun F bv hK hX => ?_)
      refine AF.icmp_ge 173 dL_areFigures_7 (by decide) (fun c1 => ?_) (fun c1 => ?_)
      · rw [nI_leI (by omega) (by omega)] at c1; omega
      · refine AF.iconst (nI 0) dL_areFigures_10 (by decide) ?_
        refine AF.istore_n dL_areFigures_11 (by decide) ?_
        refine AF.iconst (nI 0) dL_areFigures_12 (by decide) ?_
        refine AF.istore_n dL_areFigures_13 (by decide) ?_
        have lp : ∀ z k F bv bc bs l4, k + z = (fg Y.1.Fg i).length → 85 * r + 18 + 5 + 10 * z ≤ bc → 510 * r + 108 + 30 + 60 * z ≤ bs → LK G c Y B bv F → XF c bv0 bv F0 F → AF G mL_areFigures 13 bc bs (LR (LK G c Y B) c bv0 F0 (.int 1)) F 14 [some (.ref c), some (.int (nI i)), some (.int (nI (mxN (fun k => (g3 (fg Y.1.Fg i) k).1) k))), some (.int (nI k)), l4] [] := by
          intro z
          induction z with
          | zero =>
            intro k F bv bc bs l4 hk hb hs hK hX
            have e9 : k = (fg Y.1.Fg i).length := by omega
            subst e9
            refine AF.less (d' := 13) (bc' := 85 * r + 23) (bs' := 510 * r + 138) ?_ (Nat.le_refl _) (by omega) (by omega)
            refine AF.iload_n dL_areFigures_14 rfl ?_
            refine AF.aload_n dL_areFigures_15 rfl ?_
            refine AF.iload_n dL_areFigures_16 rfl ?_
            refine AF.lx (mc' := 1) (ms' := 6) (bc := 85 * r + 22) (bs := 510 * r + 132) dL_areFigures_17 kx_L_354 (W_stepCount hK hil) hX rfl rfl (Nat.le_of_ble_eq_true rfl) (by decide) rfl (fun F bv hK hX => ?_)
            refine AF.icmp_ge 130 dL_areFigures_20 (by decide) (fun c2 => ?_) (fun c2 => ?_)
            · refine AF.aload_n dL_areFigures_130 rfl ?_
              refine AF.iload_n dL_areFigures_131 rfl ?_
              refine AF.lx (mc' := 1) (ms' := 6) (bc := 85 * r + 21) (bs := 510 * r + 126) dL_areFigures_132 kx_L_365 (W_figureLength hK hil) hX rfl rfl (Nat.le_of_ble_eq_true rfl) (by decide) rfl (fun F bv hK hX => ?_)
              refine AF.iload_n dL_areFigures_135 rfl ?_
              refine AF.icmp_ne 165 dL_areFigures_136 (by decide) (fun c3 => ?_) (fun c3 => ?_)
              · exact absurd rfl c3
              · refine AF.aload_n dL_areFigures_139 rfl ?_
                refine AF.iload_n dL_areFigures_140 rfl ?_
                refine AF.lx (mc' := 1) (ms' := 6) (bc := 85 * r + 20) (bs := 510 * r + 120) dL_areFigures_141 kx_L_354 (W_stepCount hK hil) hX rfl rfl (Nat.le_of_ble_eq_true rfl) (by decide) rfl (fun F bv hK hX => ?_)
                refine AF.bipush (8) dL_areFigures_144 (by decide) ?_
                refine AF.icmp_gt 165 dL_areFigures_146 (by decide) (fun c4 => ?_) (fun c4 => ?_)
                · have c4 : nI 8 < nI (fg Y.1.Fg i).length := c4
                  rw [nI_ltI (by omega) (by omega)] at c4; omega
                · refine AF.aload_n dL_areFigures_149 rfl ?_
                  refine AF.iload_n dL_areFigures_150 rfl ?_
                  refine AF.aload_n dL_areFigures_151 rfl ?_
                  refine AF.iload_n dL_areFigures_152 rfl ?_
                  refine AF.lx (mc' := 1) (ms' := 6) (bc := 85 * r + 19) (bs := 510 * r + 114) dL_areFigures_153 kx_L_354 (W_stepCount hK hil) hX rfl rfl (Nat.le_of_ble_eq_true rfl) (by decide) rfl (fun F bv hK hX => ?_)
                  refine AF.lx (mc' := 1) (ms' := 6) (bc := 85 * r + 18) (bs := 510 * r + 108) dL_areFigures_156 kx_L_361 (W_stepJet_no hK hil) hX rfl rfl (Nat.le_of_ble_eq_true rfl) (by decide) rfl (fun F bv hK hX => ?_)
                  refine AF.sipush (-7700) dL_areFigures_159 (by decide) ?_
                  refine AF.icmp_eq 167 dL_areFigures_162 (by decide) (fun c5 => ?_) (fun c5 => ?_)
                  · refine AF.inc1 dL_areFigures_167 rfl (by decide) ?_
                    refine AF.goto 2 dL_areFigures_170 (by decide) ?_
                    exact ih (i + 1) F bv _ _ _ _ _ (by omega) (Nat.le_refl _) (Nat.le_refl _) hK hX
                  · exact absurd rfl c5
            · exact absurd (nI_le (a := (fg Y.1.Fg i).length) (b := (fg Y.1.Fg i).length) (by omega) (by omega)) c2
          | succ z ih2 =>
            intro k F bv bc bs l4 hk hb hs hK hX
            have hkl : k < (fg Y.1.Fg i).length := by omega
            obtain ⟨f1, f2, f3⟩ := hFI i k hkl
            have hmx := fln_20 (L := fg Y.1.Fg i) (fun k hk => (hFI i k hk).1) k (by omega)
            refine AF.less (d' := 13) (bc' := 85 * r + 10 * z + 33) (bs' := 510 * r + 60 * z + 198) ?_ (Nat.le_refl _) (by omega) (by omega)
            refine AF.iload_n dL_areFigures_14 rfl ?_
            refine AF.aload_n dL_areFigures_15 rfl ?_
            refine AF.iload_n dL_areFigures_16 rfl ?_
            refine AF.lx (mc' := 1) (ms' := 6) (bc := 85 * r + 10 * z + 32) (bs := 510 * r + 60 * z + 192) dL_areFigures_17 kx_L_354 (W_stepCount hK hil) hX rfl rfl (Nat.le_of_ble_eq_true rfl) (by decide) rfl (fun F bv hK hX => ?_)
            refine AF.icmp_ge 130 dL_areFigures_20 (by decide) (fun c2 => ?_) (fun c2 => ?_)
            · rw [nI_leI (by omega) (by omega)] at c2; omega
            · refine AF.iload_n dL_areFigures_23 rfl ?_
              refine AF.aload_n dL_areFigures_24 rfl ?_
              refine AF.iload_n dL_areFigures_25 rfl ?_
              refine AF.iload_n dL_areFigures_26 rfl ?_
              refine AF.lx (mc' := 1) (ms' := 6) (bc := 85 * r + 10 * z + 31) (bs := 510 * r + 60 * z + 186) dL_areFigures_27 kx_L_356 (W_stepDelay hK hil hkl) hX rfl rfl (Nat.le_of_ble_eq_true rfl) (by decide) rfl (fun F bv hK hX => ?_)
              refine AF.max dL_areFigures_30 km_L_358 (Nat.le_of_ble_eq_true rfl) (by decide) ?_
              rw [nI_max (by omega) (by omega)]
              refine AF.istore_n dL_areFigures_33 (by decide) ?_
              refine AF.aload_n dL_areFigures_34 rfl ?_
              refine AF.iload_n dL_areFigures_35 rfl ?_
              refine AF.iload_n dL_areFigures_36 rfl ?_
              refine AF.lx (mc' := 1) (ms' := 6) (bc := 85 * r + 10 * z + 30) (bs := 510 * r + 60 * z + 180) dL_areFigures_37 kx_L_356 (W_stepDelay hK hil hkl) hX rfl rfl (Nat.le_of_ble_eq_true rfl) (by decide) rfl (fun F bv hK hX => ?_)
              refine AF.if_lt 100 dL_areFigures_40 (by decide) (fun c3 => ?_) (fun c3 => ?_)
              · exact absurd c3 (nI_pos (by omega))
              · refine AF.aload_n dL_areFigures_43 rfl ?_
                refine AF.iload_n dL_areFigures_44 rfl ?_
                refine AF.iload_n dL_areFigures_45 rfl ?_
                refine AF.lx (mc' := 1) (ms' := 6) (bc := 85 * r + 10 * z + 29) (bs := 510 * r + 60 * z + 174) dL_areFigures_46 kx_L_356 (W_stepDelay hK hil hkl) hX rfl rfl (Nat.le_of_ble_eq_true rfl) (by decide) rfl (fun F bv hK hX => ?_)
                refine AF.bipush (20) dL_areFigures_49 (by decide) ?_
                refine AF.icmp_gt 100 dL_areFigures_51 (by decide) (fun c4 => ?_) (fun c4 => ?_)
                · have c4 : nI 20 < nI (g3 (fg Y.1.Fg i) k).1 := c4
                  rw [nI_ltI (by omega) (by omega)] at c4; omega
                · refine AF.aload_n dL_areFigures_54 rfl ?_
                  refine AF.iload_n dL_areFigures_55 rfl ?_
                  refine AF.iload_n dL_areFigures_56 rfl ?_
                  refine AF.lx (mc' := 1) (ms' := 6) (bc := 85 * r + 10 * z + 28) (bs := 510 * r + 60 * z + 168) dL_areFigures_57 kx_L_361 (W_stepJet hK hil hkl) hX rfl rfl (Nat.le_of_ble_eq_true rfl) (by decide) rfl (fun F bv hK hX => ?_)
                  refine AF.if_lt 100 dL_areFigures_60 (by decide) (fun c5 => ?_) (fun c5 => ?_)
                  · exact absurd c5 (nI_pos (by omega))
                  · refine AF.aload_n dL_areFigures_63 rfl ?_
                    refine AF.iload_n dL_areFigures_64 rfl ?_
                    refine AF.iload_n dL_areFigures_65 rfl ?_
                    refine AF.lx (mc' := 1) (ms' := 6) (bc := 85 * r + 10 * z + 27) (bs := 510 * r + 60 * z + 162) dL_areFigures_66 kx_L_361 (W_stepJet hK hil hkl) hX rfl rfl (Nat.le_of_ble_eq_true rfl) (by decide) rfl (fun F bv hK hX => ?_)
                    refine AF.aload_n dL_areFigures_69 rfl ?_
                    refine AF.lv (mc' := 0) (ms' := 0) (bc := 85 * r + 10 * z + 27) (bs := 510 * r + 60 * z + 162) dL_areFigures_70 kv_L_230 (Y_jetCount hK) hK.c0.choose_spec rfl hX rfl rfl (Nat.le_of_ble_eq_true rfl) (by decide) rfl (fun F bv hK hX => ?_)
                    refine AF.icmp_ge 100 dL_areFigures_73 (by decide) (fun c6 => ?_) (fun c6 => ?_)
                    · rw [nI_leI (by omega) (by omega)] at c6; omega
                    · refine AF.aload_n dL_areFigures_76 rfl ?_
                      refine AF.iload_n dL_areFigures_77 rfl ?_
                      refine AF.iload_n dL_areFigures_78 rfl ?_
                      refine AF.lx (mc' := 1) (ms' := 6) (bc := 85 * r + 10 * z + 26) (bs := 510 * r + 60 * z + 156) dL_areFigures_79 kx_L_363 (W_stepOpening hK hil hkl) hX rfl rfl (Nat.le_of_ble_eq_true rfl) (by decide) rfl (fun F bv hK hX => ?_)
                      refine AF.if_lt 100 dL_areFigures_82 (by decide) (fun c7 => ?_) (fun c7 => ?_)
                      · exact absurd c7 (nI_pos (by omega))
                      · refine AF.aload_n dL_areFigures_85 rfl ?_
                        refine AF.iload_n dL_areFigures_86 rfl ?_
                        refine AF.iload_n dL_areFigures_87 rfl ?_
                        refine AF.lx (mc' := 1) (ms' := 6) (bc := 85 * r + 10 * z + 25) (bs := 510 * r + 60 * z + 150) dL_areFigures_88 kx_L_363 (W_stepOpening hK hil hkl) hX rfl rfl (Nat.le_of_ble_eq_true rfl) (by decide) rfl (fun F bv hK hX => ?_)
                        refine AF.bipush (10) dL_areFigures_91 (by decide) ?_
                        refine AF.icmp_gt 100 dL_areFigures_93 (by decide) (fun c8 => ?_) (fun c8 => ?_)
                        · have c8 : nI 10 < nI (g3 (fg Y.1.Fg i) k).2.2 := c8
                          rw [nI_ltI (by omega) (by omega)] at c8; omega
                        · refine AF.iconst (1) dL_areFigures_96 (by decide) ?_
                          refine AF.goto 101 dL_areFigures_97 (by decide) ?_
                          refine AF.istore dL_areFigures_101 (by decide) ?_
                          refine AF.iload dL_areFigures_103 rfl ?_
                          refine AF.if_eq 122 dL_areFigures_105 (by decide) (fun c9 => ?_) (fun c9 => ?_)
                          · exact absurd c9 (by decide)
                          · refine AF.aload_n dL_areFigures_108 rfl ?_
                            refine AF.aload_n dL_areFigures_109 rfl ?_
                            refine AF.iload_n dL_areFigures_110 rfl ?_
                            refine AF.iload_n dL_areFigures_111 rfl ?_
                            refine AF.lx (mc' := 1) (ms' := 6) (bc := 85 * r + 10 * z + 24) (bs := 510 * r + 60 * z + 144) dL_areFigures_112 kx_L_361 (W_stepJet hK hil hkl) hX rfl rfl (Nat.le_of_ble_eq_true rfl) (by decide) rfl (fun F bv hK hX => ?_)
                            refine AF.lx (mc' := 1) (ms' := 6) (bc := 85 * r + 10 * z + 23) (bs := 510 * r + 60 * z + 138) dL_areFigures_115 kx_L_337 (W_figuresUsing hK f2) hX rfl rfl (Nat.le_of_ble_eq_true rfl) (by decide) rfl (fun F bv hK hX => ?_)
                            refine AF.iconst (nI 1) dL_areFigures_118 (by decide) ?_
                            have h2 := cntB_le (P := fun i9 => fus (fg Y.1.Fg i9) (g3 (fg Y.1.Fg i) k).2.1) Y.1.Fg.length
                            have h3 : 1 ≤ cntB (fun i9 => fus (fg Y.1.Fg i9) (g3 (fg Y.1.Fg i) k).2.1) Y.1.Fg.length := cntB_pos (j := i) (fus_in hkl) _ hil
                            refine AF.icmp_ge 124 dL_areFigures_119 (by decide) (fun c10 => ?_) (fun c10 => ?_)
                            · refine AF.inc1 dL_areFigures_124 rfl (by decide) ?_
                              refine AF.goto 14 dL_areFigures_127 (by decide) ?_
                              exact ih2 (k + 1) F bv _ _ _ (by omega) (by omega) (by omega) hK hX
                            · rw [nI_leI (by omega) (by omega)] at c10; omega
        exact lp (fg Y.1.Fg i).length 0 F bv _ _ l4 (by omega) (by omega) (by omega) hK hX
  refine AC.of [some (.ref c), none, none, none, none] rfl (by decide) (Nat.le_of_ble_eq_true rfl) rfl ?_
  refine AF.iconst (nI 0) dL_areFigures_0 (by decide) ?_
  refine AF.istore_n dL_areFigures_1 (by decide) ?_
  exact lp1 Y.1.Fg.length 0 F0 bv0 _ _ none none none (by omega) (by omega) (by omega) hK0 XF.rf
end

