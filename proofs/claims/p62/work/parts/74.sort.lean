/-! The sorter of landings. -/
theorem seg_len {f : Nat → Int32} : ∀ k a, (seg f a k).length = k
  | 0, _ => rfl
  | k + 1, a => by simp only [seg, List.length_cons]; rw [seg_len k (a + 1)]
theorem nI_min {a b : Nat} (h1 : a < 2 ^ 31) (h2 : b < 2 ^ 31) : (if nI b < nI a then nI b else nI a) = nI (min a b) := by
  by_cases q : b < a
  · rw [if_pos (by rw [nI_ltI h2 h1]; exact q), Nat.min_eq_right (by omega)]
  · rw [if_neg (by rw [nI_ltI h2 h1]; exact q), Nat.min_eq_left (by omega)]
/-- blocks of 2 w before s, blocks of w from s on, are in order -/
def IS (f : Nat → Int32) (n w s : Nat) : Prop := s % (2 * w) = 0 ∧ (∀ b, b % (2 * w) = 0 → b < s → SRT f b (min (b + 2 * w) n)) ∧ ∀ b, b % w = 0 → s ≤ b → SRT f b (min (b + w) n)
theorem IS.next {f f' : Nat → Int32} {n w s : Nat} (hw : w = 1 ∨ w = 2 ∨ w = 4 ∨ w = 8) (h : IS f n w s) (hq : ∀ q, (q < s ∨ min (s + 2 * w) n ≤ q) → f' q = f q) (hs : SRT f' s (min (s + 2 * w) n)) : IS f' n w (s + 2 * w) := by
  obtain ⟨h1, h2, h3⟩ := h
  rcases hw with rfl | rfl | rfl | rfl
  all_goals
    refine ⟨by omega, fun b hb hlt => ?_, fun b hb hle i j g1 g2 g3 => ?_⟩
    · by_cases e : b = s
      · subst e; exact hs
      · intro i j g1 g2 g3
        rw [hq i (by omega), hq j (by omega)]
        exact h2 b hb (by omega) i j g1 g2 g3
    · rw [hq i (by omega), hq j (by omega)]
      exact h3 b hb (by omega) i j g1 g2 g3
theorem IS.parts {f : Nat → Int32} {n w s : Nat} (hw : w = 1 ∨ w = 2 ∨ w = 4 ∨ w = 8) (h : IS f n w s) : SRT f s (min (s + w) n) ∧ SRT f (min (s + w) n) (min (s + 2 * w) n) := by
  obtain ⟨h1, h2, h3⟩ := h
  rcases hw with rfl | rfl | rfl | rfl
  · exact ⟨h3 s (by omega) (Nat.le_refl _), fun i j g1 g2 g3 => h3 (s + 1) (by omega) (by omega) i j (by omega) g2 (by omega)⟩
  · exact ⟨h3 s (by omega) (Nat.le_refl _), fun i j g1 g2 g3 => h3 (s + 2) (by omega) (by omega) i j (by omega) g2 (by omega)⟩
  · exact ⟨h3 s (by omega) (Nat.le_refl _), fun i j g1 g2 g3 => h3 (s + 4) (by omega) (by omega) i j (by omega) g2 (by omega)⟩
  · exact ⟨h3 s (by omega) (Nat.le_refl _), fun i j g1 g2 g3 => h3 (s + 8) (by omega) (by omega) i j (by omega) g2 (by omega)⟩
theorem IS.last {f : Nat → Int32} {n w s : Nat} (h : IS f n w s) (hn : n ≤ s) : IS f n (2 * w) 0 :=
  ⟨Nat.zero_mod _, fun b _ q => absurd q (Nat.not_lt_zero _), fun b hb _ => by
    by_cases q : b < s
    · exact h.2.1 b hb q
    · exact fun i j g1 g2 g3 => by omega⟩
theorem merge_inv {f f' : Nat → Int32} {n s m e : Nat} (h1 : s ≤ m) (h2 : m ≤ e) (h3 : e ≤ n) (hq : ∀ q, (q < s ∨ e ≤ q) → f' q = f q) (hA : SRT f s m) (hB : SRT f m e) (hM : SO (seg f' s (e - s))) (hP : (seg f' s (e - s)).Perm (seg f s (m - s) ++ seg f m (e - m))) : inv (seg f 0 n) = inv (seg f' 0 n) + cra (seg f s (m - s)) (seg f m (e - m)) := by
  have e1 : ∀ f : Nat → Int32, seg f 0 n = seg f 0 s ++ (seg f s (e - s) ++ seg f e (n - e)) := fun f => by
    have := seg_app (f := f) s 0 ((e - s) + (n - e))
    rw [seg_app (e - s) (0 + s) (n - e), show s + (e - s + (n - e)) = n by omega, show 0 + s = s by omega, show s + (e - s) = e by omega] at this
    exact this
  have e2 : seg f s (e - s) = seg f s (m - s) ++ seg f m (e - m) := by
    have := seg_app (f := f) (m - s) s (e - m)
    rw [show m - s + (e - m) = e - s by omega, show s + (m - s) = m by omega] at this
    exact this
  rw [e1 f, e1 f', e2, seg_cg (f := f') (g := f) s 0 (fun i _ hi => hq i (by omega)), seg_cg (f := f') (g := f) (n - e) e (fun i hi _ => hq i (by omega))]
  exact inv_mid hP hM.iv (SRT.so (m - s) s (by rw [show s + (m - s) = m by omega]; exact hA)).iv (SRT.so (e - m) m (by rw [show m + (e - m) = e by omega]; exact hB)).iv
def LA (G : GA) (F : AH) (z : Nat) (f g : Nat → Int32) : Prop := F.2 z = some (.inr (2, [.ref (z + 1), .ref (z + 2)])) ∧ F.2 (z + 1) = some (.inl (gC G 0, 10, .inl f)) ∧ F.2 (z + 2) = some (.inl (gC G 0, 10, .inl g))
def LSA (G : GA) (F : AH) (z : Nat) : Prop := ∃ f g, LA G F z f g
theorem LSA.kept {G : GA} {F F' : AH} {z : Nat} (h : LSA G F z) (e : ∀ q, z ≤ q → q < z + 3 → F'.2 q = F.2 q) : LSA G F' z := by
  obtain ⟨f, g, h0, h1, h2⟩ := h
  exact ⟨f, g, (e z (by omega) (by omega)).trans h0, (e (z + 1) (by omega) (by omega)).trans h1, (e (z + 2) (by omega) (by omega)).trans h2⟩
theorem LSA.fr {G : GA} {F F' : AH} {z lo hi : Nat} (h : LSA G F z) (q : Fr lo hi F F') (d : z + 3 ≤ lo ∨ hi ≤ z) : LSA G F' z := h.kept (fun x h1 h2 => q.2 x (by omega))
section
variable {G : GA} {F : AH} {z a : Nat} {f g : Nat → Int32} {J : List Jt} {cap : Nat} {w : Int32}
set_option maxRecDepth 100000 in
theorem X4_init_ok (hF : F.2 z = some (.inr (2, [.null, .null]))) (ha : gN G ≤ z) (hz : F.1 = z + 1) : AC G mX4_init 1 2 20 [.ref z] F (fun r F' => r = .inl none ∧ LSA G F' z ∧ Mk z (z + 3) F F') := by
  refine AC.of [some (.ref z)] rfl (by decide) (Nat.le_of_ble_eq_true rfl) rfl ?_
  have s0 := hF
  have hmk : ∀ q, (q < z ∨ z + 3 ≤ q) → F.2 q = F.2 q := fun _ _ => rfl
  refine AF.aload_n dX4_init_0 rfl ?_
  refine AF.objInit dX4_init_1 ko_X4_3 (Nat.le_of_ble_eq_true rfl) (by decide) ?_
  refine AF.aload_n dX4_init_4 rfl ?_
  refine AF.bipush (nI 10) dX4_init_5 (by decide) ?_
  refine AF.newI (n := 10) (bc := 1) (bs := 10) dX4_init_7 aw_int (by first | rfl | decide) (by decide) ?_
  intro F e9 h9 o9
  rw [hz] at e9 h9 o9 ⊢
  replace hz : F.1 = z + 2 := e9
  replace s0 := (o9 (z) (by omega)).trans s0
  have h1 := h9
  replace hmk := fun q hq => (o9 q (by omega)).trans (hmk q hq)
  clear e9 h9 o9
  refine AF.putfieldF dX4_init_9 fp_X4_9 s0 (by omega) (Nat.le_of_ble_eq_true rfl) rfl rfl (Or.inl rfl) ?_
  intro F e9 h9 o9
  replace h1 := (o9 (z + 1) (by omega)).trans h1
  replace s0 := h9
  replace hmk := fun q hq => (o9 q (by omega)).trans (hmk q hq)
  replace hz := e9.trans hz
  clear e9 h9 o9
  refine AF.aload_n dX4_init_12 rfl ?_
  refine AF.bipush (nI 10) dX4_init_13 (by decide) ?_
  refine AF.newI (n := 10) (bc := 0) (bs := 0) dX4_init_15 aw_int (by first | rfl | decide) (by decide) ?_
  intro F e9 h9 o9
  rw [hz] at e9 h9 o9 ⊢
  replace hz : F.1 = z + 3 := e9
  replace s0 := (o9 (z) (by omega)).trans s0
  replace h1 := (o9 (z + 1) (by omega)).trans h1
  have h2 := h9
  replace hmk := fun q hq => (o9 q (by omega)).trans (hmk q hq)
  clear e9 h9 o9
  refine AF.putfieldF dX4_init_17 fp_X4_15 s0 (by omega) (Nat.le_of_ble_eq_true rfl) rfl rfl (Or.inl rfl) ?_
  intro F e9 h9 o9
  replace h1 := (o9 (z + 1) (by omega)).trans h1
  replace h2 := (o9 (z + 2) (by omega)).trans h2
  replace s0 := h9
  replace hmk := fun q hq => (o9 q (by omega)).trans (hmk q hq)
  replace hz := e9.trans hz
  clear e9 h9 o9
  exact AF.vreturn dX4_init_20 rfl ⟨rfl, ⟨_, _, s0, h1, h2⟩, hz, hmk⟩
set_option maxRecDepth 100000 in
set_option maxHeartbeats 4000000 in
theorem X4_merge_ok {F0 : AH} (hL : LA G F0 z f g) (ha : gN G ≤ z) (s m e : Nat) (h1' : s ≤ m) (h2' : m ≤ e) (h3' : e ≤ 10) (hA : SRT f s m) (hB : SRT f m e) : AC G mX4_merge 1 0 0 [.ref z, .int (nI s), .int (nI m), .int (nI e)] F0 (fun r F' => r = .inl (some (.int (nI (cra (seg f s (m - s)) (seg f m (e - m)))))) ∧ (∃ f' g', LA G F' z f' g' ∧ (∀ q, (q < s ∨ e ≤ q) → f' q = f q) ∧ SO (seg f' s (e - s)) ∧ (seg f' s (e - s)).Perm (seg f s (m - s) ++ seg f m (e - m))) ∧ Fr z (z + 3) F0 F') := by
  refine AC.of [some (.ref z), some (.int (nI s)), some (.int (nI m)), some (.int (nI e)), none, none, none, none] rfl (by decide) (Nat.le_of_ble_eq_true rfl) rfl ?_
  generalize hR : (fun (r : AR) (F' : AH) => r = .inl (some (.int (nI (cra (seg f s (m - s)) (seg f m (e - m)))))) ∧ (∃ f' g', LA G F' z f' g' ∧ (∀ q, (q < s ∨ e ≤ q) → f' q = f q) ∧ SO (seg f' s (e - s)) ∧ (seg f' s (e - s)).Perm (seg f s (m - s) ++ seg f m (e - m))) ∧ Fr z (z + 3) F0 F') = R
  have hfr : Fr z (z + 3) F0 F0 := Fr.rf
  have loop : ∀ k l r p cnt g F1, p + k = e → s ≤ l → l ≤ m → m ≤ r → r ≤ e → l + r = p + m → LA G F1 z f g → Fr z (z + 3) F0 F1 →
      (∀ g' M c F2, MGR M (seg f l (m - l)) (seg f r (e - r)) c → seg g' p k = M → (∀ q, q < p → g' q = g q) → LA G F2 z f g' → Fr z (z + 3) F0 F2 → ∀ z1 z2, AF G mX4_merge 1 0 0 R F2 99 [some (.ref z), some (.int (nI s)), some (.int (nI m)), some (.int (nI e)), some (.int (nI (cnt + c))), z1, z2, some (.int (nI e))] []) →
      AF G mX4_merge 1 0 0 R F1 12 [some (.ref z), some (.int (nI s)), some (.int (nI m)), some (.int (nI e)), some (.int (nI cnt)), some (.int (nI l)), some (.int (nI r)), some (.int (nI p))] [] := by
    intro k
    induction k with
    | zero =>
      intro l r p cnt g F1 hk i1 i2 i3 i4 i5 hL hfr cont
      obtain rfl : p = e := by omega
      refine AF.iload dX4_merge_12 rfl ?_
      refine AF.iload_n dX4_merge_14 rfl ?_
      refine AF.icmp_ge 99 dX4_merge_15 (by decide) (fun hb => ?_) (fun hb => ?_)
      · exact cont g [] 0 _ (by rw [show m - l = 0 by omega, show p - r = 0 by omega]; exact ⟨rfl, rfl, rfl⟩) rfl (fun _ _ => rfl) hL hfr _ _
      · exact absurd (by rw [nI_leI (by omega) (by omega)]; omega) hb
    | succ k ih =>
      intro l r p cnt g F1 hk i1 i2 i3 i4 i5 hL hfr cont
      obtain ⟨h0, h1, h2⟩ := hL
      have tl : l < m → (∀ y, (seg f r (e - r)).head? = some y → f l ≤ y) → AF G mX4_merge 1 0 0 R F1 47 [some (.ref z), some (.int (nI s)), some (.int (nI m)), some (.int (nI e)), some (.int (nI cnt)), some (.int (nI l)), some (.int (nI r)), some (.int (nI p))] [] := by
        intro hlm hc
        refine AF.aload_n dX4_merge_47 rfl ?_
        refine AF.getfield dX4_merge_48 fl_X4_15 (by assumption) rfl ?_
        refine AF.iload dX4_merge_51 rfl ?_
        refine AF.aload_n dX4_merge_53 rfl ?_
        refine AF.getfield dX4_merge_54 fl_X4_9 (by assumption) rfl ?_
        refine AF.iload dX4_merge_57 rfl ?_
        refine AF.iaload (_) dX4_merge_59 (by assumption) rfl (by omega) (by decide) ?_
        refine AF.iastoreF (_) dX4_merge_60 h2 (by omega) rfl (by omega) (by decide) ?_
        intro F e9 h9 o9
        replace h0 := (o9 (z) (by omega)).trans h0
        replace h1 := (o9 (z + 1) (by omega)).trans h1
        replace h2 := h9
        replace hfr := hfr.step e9 (by omega) (by omega) o9
        clear e9 h9 o9
        refine AF.inc1 dX4_merge_61 rfl (by decide) ?_
        refine AF.goto 93 dX4_merge_64 (by decide) ?_
        refine AF.inc1 dX4_merge_93 rfl (by decide) ?_
        refine AF.goto 12 dX4_merge_96 (by decide) ?_
        refine ih (l + 1) r (p + 1) cnt _ F (by omega) (by omega) (by omega) i3 i4 (by omega) ⟨h0, h1, h2⟩ hfr (fun g' M c F2 k1 k2 k3 k4 k5 z1 z2 => ?_)
        refine cont g' (f l :: M) c F2 (Or.inl ⟨seg f (l + 1) (m - (l + 1)), ?_, hc, k1⟩) ?_ (fun q hq => ?_) k4 k5 z1 z2
        · rw [show m - l = (m - (l + 1)) + 1 by omega]; rfl
        · show g' p :: seg g' (p + 1) k = _
          rw [k2, k3 p (by omega), upd_s]
        · rw [k3 q (by omega), upd_n (by omega)]
      have tr : r < e → (∀ x, (seg f l (m - l)).head? = some x → f r < x) → AF G mX4_merge 1 0 0 R F1 67 [some (.ref z), some (.int (nI s)), some (.int (nI m)), some (.int (nI e)), some (.int (nI cnt)), some (.int (nI l)), some (.int (nI r)), some (.int (nI p))] [] := by
        intro hre hc
        refine AF.aload_n dX4_merge_67 rfl ?_
        refine AF.getfield dX4_merge_68 fl_X4_15 (by assumption) rfl ?_
        refine AF.iload dX4_merge_71 rfl ?_
        refine AF.aload_n dX4_merge_73 rfl ?_
        refine AF.getfield dX4_merge_74 fl_X4_9 (by assumption) rfl ?_
        refine AF.iload dX4_merge_77 rfl ?_
        refine AF.iaload (_) dX4_merge_79 (by assumption) rfl (by omega) (by decide) ?_
        refine AF.iastoreF (_) dX4_merge_80 h2 (by omega) rfl (by omega) (by decide) ?_
        intro F e9 h9 o9
        replace h0 := (o9 (z) (by omega)).trans h0
        replace h1 := (o9 (z + 1) (by omega)).trans h1
        replace h2 := h9
        replace hfr := hfr.step e9 (by omega) (by omega) o9
        clear e9 h9 o9
        refine AF.inc1 dX4_merge_81 rfl (by decide) ?_
        refine AF.iload dX4_merge_84 rfl ?_
        refine AF.iload_n dX4_merge_86 rfl ?_
        refine AF.iload dX4_merge_87 rfl ?_
        refine AF.isub dX4_merge_89 ?_
        rw [pk_sub i2]
        refine AF.iadd dX4_merge_90 ?_
        rw [nI_add]
        refine AF.istore dX4_merge_91 (by decide) ?_
        refine AF.inc1 dX4_merge_93 rfl (by decide) ?_
        refine AF.goto 12 dX4_merge_96 (by decide) ?_
        refine ih l (r + 1) (p + 1) (cnt + (m - l)) _ F (by omega) i1 i2 (by omega) (by omega) (by omega) ⟨h0, h1, h2⟩ hfr (fun g' M c F2 k1 k2 k3 k4 k5 z1 z2 => ?_)
        have := cont g' (f r :: M) ((seg f l (m - l)).length + c) F2 (Or.inr ⟨seg f (r + 1) (e - (r + 1)), c, ?_, hc, rfl, k1⟩) ?_ (fun q hq => ?_) k4 k5 z1 z2
        · rw [seg_len, ← Nat.add_assoc] at this; exact this
        · rw [show e - r = (e - (r + 1)) + 1 by omega]; rfl
        · show g' p :: seg g' (p + 1) k = _
          rw [k2, k3 p (by omega), upd_s]
        · rw [k3 q (by omega), upd_n (by omega)]
      refine AF.iload dX4_merge_12 rfl ?_
      refine AF.iload_n dX4_merge_14 rfl ?_
      refine AF.icmp_ge 99 dX4_merge_15 (by decide) (fun hb => ?_) (fun hb => ?_)
      · rw [nI_leI (by omega) (by omega)] at hb
        omega
      · refine AF.iload dX4_merge_18 rfl ?_
        refine AF.iload_n dX4_merge_20 rfl ?_
        refine AF.icmp_ge 47 dX4_merge_21 (by decide) (fun hc => ?_) (fun hc => ?_)
        · rw [nI_leI (by omega) (by omega)] at hc
          exact tl (by omega) (fun y hy => by rw [show e - r = 0 by omega] at hy; cases hy)
        · rw [nI_leI (by omega) (by omega)] at hc
          refine AF.iload dX4_merge_24 rfl ?_
          refine AF.iload_n dX4_merge_26 rfl ?_
          refine AF.icmp_ge 67 dX4_merge_27 (by decide) (fun hd => ?_) (fun hd => ?_)
          · rw [nI_leI (by omega) (by omega)] at hd
            exact tr (by omega) (fun y hy => by rw [show m - l = 0 by omega] at hy; cases hy)
          · rw [nI_leI (by omega) (by omega)] at hd
            refine AF.aload_n dX4_merge_30 rfl ?_
            refine AF.getfield dX4_merge_31 fl_X4_9 (by assumption) rfl ?_
            refine AF.iload dX4_merge_34 rfl ?_
            refine AF.iaload (_) dX4_merge_36 (by assumption) rfl (by omega) (by decide) ?_
            refine AF.aload_n dX4_merge_37 rfl ?_
            refine AF.getfield dX4_merge_38 fl_X4_9 (by assumption) rfl ?_
            refine AF.iload dX4_merge_41 rfl ?_
            refine AF.iaload (_) dX4_merge_43 (by assumption) rfl (by omega) (by decide) ?_
            refine AF.icmp_gt 67 dX4_merge_44 (by decide) (fun hx => ?_) (fun hx => ?_)
            · refine tr (by omega) (fun y hy => ?_)
              rw [show m - l = (m - (l + 1)) + 1 by omega] at hy
              cases hy
              exact hx
            · refine tl (by omega) (fun y hy => ?_)
              rw [show e - r = (e - (r + 1)) + 1 by omega] at hy
              cases hy
              exact Int32.not_lt.mp hx
  obtain ⟨h0, h1, h2⟩ := id hL
  refine AF.iconst (nI 0) dX4_merge_0 (by decide) ?_
  refine AF.istore dX4_merge_1 (by decide) ?_
  refine AF.iload_n dX4_merge_3 rfl ?_
  refine AF.istore dX4_merge_4 (by decide) ?_
  refine AF.iload_n dX4_merge_6 rfl ?_
  refine AF.istore dX4_merge_7 (by decide) ?_
  refine AF.iload_n dX4_merge_9 rfl ?_
  refine AF.istore dX4_merge_10 (by decide) ?_
  refine loop (e - s) s m s 0 g F0 (by omega) (Nat.le_refl _) h1' (Nat.le_refl _) h2' rfl hL hfr (fun g' M c F2 k1 k2 k3 k4 k5 z1 z2 => ?_)
  obtain ⟨o1, o2, o3⟩ := MGR.ok k1 (SRT.so (m - s) s (by rw [show s + (m - s) = m by omega]; exact hA)) (SRT.so (e - m) m (by rw [show m + (e - m) = e by omega]; exact hB))
  obtain ⟨h0, h1, h2⟩ := k4
  have hfr := k5
  refine AF.aload_n dX4_merge_99 rfl ?_
  refine AF.getfield dX4_merge_100 fl_X4_15 (by assumption) rfl ?_
  refine AF.iload_n dX4_merge_103 rfl ?_
  refine AF.aload_n dX4_merge_104 rfl ?_
  refine AF.getfield dX4_merge_105 fl_X4_9 (by assumption) rfl ?_
  refine AF.iload_n dX4_merge_108 rfl ?_
  refine AF.iload_n dX4_merge_109 rfl ?_
  refine AF.iload_n dX4_merge_110 rfl ?_
  refine AF.isub dX4_merge_111 ?_
  rw [pk_sub (by omega)]
  refine AF.copyi dX4_merge_112 ka_X4_49 h2 h1 (by omega) rfl rfl rfl (by omega) (by omega) (by decide) (by decide) (Nat.le_of_ble_eq_true rfl) (by decide) ?_
  intro F e9 h9 o9
  replace h0 := (o9 (z) (by omega)).trans h0
  replace h2 := (o9 (z + 2) (by omega)).trans h2
  replace h1 := h9
  replace hfr := hfr.step e9 (by omega) (by omega) o9
  clear e9 h9 o9
  refine AF.iload dX4_merge_115 rfl ?_
  subst hR
  have e9 : seg (va_cpy g' f s s (e - s)) s (e - s) = M := by
    rw [← k2]
    exact seg_cg _ _ (fun i q1 q2 => by rw [pk_cpy_in (by omega) (by omega), show s + (i - s) = i by omega])
  refine AF.ireturn dX4_merge_117 rfl ⟨by rw [Nat.zero_add, o3], ⟨_, g', ⟨h0, h1, h2⟩, fun q hq => pk_cpy_out (by omega), by rw [e9]; exact o1, by rw [e9]; exact o2⟩, hfr⟩
set_option maxRecDepth 100000 in
theorem X4_takeLandings_ok {F0 : AH} (hL : LA G F0 z f g) (hJ : JA G F0 a J cap w) (ha : gN G ≤ z) (hd : a + 3 ≤ z ∨ z + 3 ≤ a) (hI : JI J) (hP : PD J) (hcap : cap ≤ 100) : AC G mX4_takeLandings 2 0 0 [.ref z, .ref a] F0 (fun r F' => r = .inl none ∧ (∃ f', LA G F' z f' g ∧ ∀ j, j < J.length → f' (rnk J j) = lan J cap w (dem J) j) ∧ Fr z (z + 3) F0 F') := by
  have hS := X3_sum_ok hJ
  have hJl : J.length ≤ 10 := hJ.choose_spec.choose_spec.2.1
  have hdm := dem_le hI hJl
  refine AC.of [some (.ref z), some (.ref a), none, none] rfl (by decide) (Nat.le_of_ble_eq_true rfl) rfl ?_
  have hfr : Fr z (z + 3) F0 F0 := Fr.rf
  have loop : ∀ k j f F1, j + k = J.length → LA G F1 z f g → JA G F1 a J cap w → (∀ i, i < j → f (rnk J i) = lan J cap w (dem J) i) → Fr z (z + 3) F0 F1 → AF G mX4_takeLandings 2 0 0 (fun r F' => r = .inl none ∧ (∃ f', LA G F' z f' g ∧ ∀ j, j < J.length → f' (rnk J j) = lan J cap w (dem J) j) ∧ Fr z (z + 3) F0 F') F1 7 [some (.ref z), some (.ref a), some (.int (nI (dem J))), some (.int (nI j))] [] := by
    intro k
    induction k with
    | zero =>
      intro j f F1 hk hL hJ hf hfr
      obtain ⟨_, _, ⟨j0, -⟩, -⟩ := id hJ
      refine AF.iload_n dX4_takeLandings_7 rfl ?_
      refine AF.aload_n dX4_takeLandings_8 rfl ?_
      refine AF.getfield dX4_takeLandings_9 fl_X4_22 (by assumption) rfl ?_
      refine AF.icmp_ge 37 dX4_takeLandings_12 (by decide) (fun hb => ?_) (fun hb => ?_)
      · exact AF.vreturn dX4_takeLandings_37 rfl ⟨rfl, ⟨f, hL, fun i hi => hf i (by omega)⟩, hfr⟩
      · exact absurd (by rw [nI_leI (by omega) (by omega)]; omega) hb
    | succ k ih =>
      intro j f F1 hk hL hJ hf hfr
      obtain ⟨_, _, ⟨j0, -⟩, -⟩ := id hJ
      have hR := X3_rankOf_ok hJ hI j (by omega)
      have hK := X3_landingOf_ok hJ hI hcap (dem J) j hdm (by omega)
      have hro := hP.ro
      have hrl := hro.1 j (by omega)
      obtain ⟨h0, h1, h2⟩ := hL
      refine AF.iload_n dX4_takeLandings_7 rfl ?_
      refine AF.aload_n dX4_takeLandings_8 rfl ?_
      refine AF.getfield dX4_takeLandings_9 fl_X4_22 (by assumption) rfl ?_
      refine AF.icmp_ge 37 dX4_takeLandings_12 (by decide) (fun hb => ?_) (fun hb => ?_)
      · rw [nI_leI (by omega) (by omega)] at hb
        omega
      · refine AF.aload_n dX4_takeLandings_15 rfl ?_
        refine AF.getfield dX4_takeLandings_16 fl_X4_9 (by assumption) rfl ?_
        refine AF.aload_n dX4_takeLandings_19 rfl ?_
        refine AF.iload_n dX4_takeLandings_20 rfl ?_
        refine AF.vn1 dX4_takeLandings_21 kn_X4_42 ((hR)) (by assumption) rfl rfl rfl (Nat.le_of_ble_eq_true rfl) (by decide) rfl ?_
        refine AF.aload_n dX4_takeLandings_24 rfl ?_
        refine AF.iload_n dX4_takeLandings_25 rfl ?_
        refine AF.iload_n dX4_takeLandings_26 rfl ?_
        refine AF.v1 dX4_takeLandings_27 kv_X4_46 ((hK)) (by assumption) rfl rfl rfl (Nat.le_of_ble_eq_true rfl) (by decide) rfl ?_
        clear j0
        refine AF.iastoreF (_) dX4_takeLandings_30 h1 (by omega) rfl (by omega) (by decide) ?_
        intro F e9 h9 o9
        replace h0 := (o9 (z) (by omega)).trans h0
        replace h2 := (o9 (z + 2) (by omega)).trans h2
        replace hJ := hJ.kept (fun q h1 h2 => o9 q (by omega))
        replace h1 := h9
        replace hfr := hfr.step e9 (by omega) (by omega) o9
        clear e9 h9 o9
        refine AF.inc1 dX4_takeLandings_31 rfl (by decide) ?_
        refine AF.goto 7 dX4_takeLandings_34 (by decide) ?_
        refine ih (j + 1) _ F (by omega) ⟨h0, h1, h2⟩ hJ (fun i hi => ?_) hfr
        by_cases e : i = j
        · subst e; exact upd_s
        · rw [upd_n (fun q => e (hro.2 i j (by omega) (by omega) q))]; exact hf i (by omega)
  obtain ⟨_, _, ⟨j0, -⟩, -⟩ := id hJ
  refine AF.aload_n dX4_takeLandings_0 rfl ?_
  refine AF.v1 dX4_takeLandings_1 kv_X4_38 ((hS)) (by assumption) rfl rfl rfl (Nat.le_of_ble_eq_true rfl) (by decide) rfl ?_
  refine AF.istore_n dX4_takeLandings_4 (by decide) ?_
  refine AF.iconst (nI 0) dX4_takeLandings_5 (by decide) ?_
  refine AF.istore_n dX4_takeLandings_6 (by decide) ?_
  exact loop J.length 0 f F0 (by omega) hL hJ (fun i hi => absurd hi (Nat.not_lt_zero _)) hfr
set_option maxRecDepth 100000 in
set_option maxHeartbeats 4000000 in
theorem X4_countInversions_ok {F0 : AH} (hL : LSA G F0 z) (hJ : JA G F0 a J cap w) (ha : gN G ≤ z) (hd : a + 3 ≤ z ∨ z + 3 ≤ a) (hI : JI J) (hP : PD J) (hcap : cap ≤ 100) : AC G mX4_countInversions 3 0 0 [.ref z, .ref a] F0 (fun r F' => r = .inl (some (.int (nI (prs J cap w)))) ∧ LSA G F' z ∧ Fr z (z + 3) F0 F') := by
  obtain ⟨f, g, hL⟩ := hL
  have hT := X4_takeLandings_ok hL hJ ha hd hI hP hcap
  have hn : J.length ≤ 10 := hJ.choose_spec.choose_spec.2.1
  obtain ⟨h0, h1, h2⟩ := hL
  refine AC.of [some (.ref z), some (.ref a), none, none, none, none] rfl (by decide) (Nat.le_of_ble_eq_true rfl) rfl ?_
  refine AF.aload_n dX4_countInversions_0 rfl ?_
  refine AF.aload_n dX4_countInversions_1 rfl ?_
  refine AF.vw dX4_countInversions_2 kv_X4_18 (hT) (by assumption) rfl rfl rfl (Nat.le_of_ble_eq_true rfl) (by decide) rfl (fun E F9 q => nomatch q.1) (fun v F q => ?_)
  obtain ⟨q, hT2, q2⟩ := q
  cases q
  obtain ⟨f0, hL, hf⟩ := hT2
  replace hJ := hJ.fr q2 (by omega)
  obtain ⟨_, _, ⟨j0, -⟩, -⟩ := id hJ
  have hfr := q2
  rw [prs_inv hP hf]
  have exq : ∀ wd f g F1 z4 z5, J.length ≤ wd → IS f J.length wd 0 → LA G F1 z f g → Fr z (z + 3) F0 F1 → ∀ c, c + inv (seg f 0 J.length) = inv (seg f0 0 J.length) → AF G mX4_countInversions 3 0 0 (fun r F' => r = .inl (some (.int (nI (inv (seg f0 0 J.length))))) ∧ LSA G F' z ∧ Fr z (z + 3) F0 F') F1 80 [some (.ref z), some (.ref a), some (.int (nI J.length)), some (.int (nI c)), z4, z5] [] := by
    intro wd f g F1 z4 z5 hw hIS hL hfr c hc
    refine AF.iload_n dX4_countInversions_80 rfl ?_
    have hs := hIS.2.2 0 (Nat.zero_mod _) (Nat.le_refl _)
    rw [Nat.zero_add, Nat.min_eq_right hw] at hs
    have := (SRT.so J.length 0 (by rw [Nat.zero_add]; exact hs)).iv
    exact AF.ireturn dX4_countInversions_81 rfl ⟨by rw [← hc, this, Nat.add_zero], ⟨f, g, hL⟩, hfr⟩
  have outer : ∀ r wd c f g F1 z5, (wd = 1 ∧ r = 4 ∨ wd = 2 ∧ r = 3 ∨ wd = 4 ∧ r = 2 ∨ wd = 8 ∧ r = 1 ∨ wd = 16 ∧ r = 0) → IS f J.length wd 0 → LA G F1 z f g → Fr z (z + 3) F0 F1 → c + inv (seg f 0 J.length) = inv (seg f0 0 J.length) → AF G mX4_countInversions 3 0 0 (fun r F' => r = .inl (some (.int (nI (inv (seg f0 0 J.length))))) ∧ LSA G F' z ∧ Fr z (z + 3) F0 F') F1 15 [some (.ref z), some (.ref a), some (.int (nI J.length)), some (.int (nI c)), some (.int (nI wd)), z5] [] := by
    intro r
    induction r with
    | zero =>
      intro wd c f g F1 z5 hw hIS hL hfr hc
      refine AF.iload dX4_countInversions_15 rfl ?_
      refine AF.iload_n dX4_countInversions_17 rfl ?_
      refine AF.icmp_ge 80 dX4_countInversions_18 (by decide) (fun hb => ?_) (fun hb => ?_)
      · exact exq wd f g F1 _ _ (by omega) hIS hL hfr c hc
      · exact absurd (by rw [nI_leI (by omega) (by omega)]; omega) hb
    | succ r ih =>
      intro wd c f g F1 z5 hw hIS hL hfr hc
      refine AF.iload dX4_countInversions_15 rfl ?_
      refine AF.iload_n dX4_countInversions_17 rfl ?_
      refine AF.icmp_ge 80 dX4_countInversions_18 (by decide) (fun hb => ?_) (fun hb => ?_)
      · rw [nI_leI (by omega) (by omega)] at hb
        exact exq wd f g F1 _ _ hb hIS hL hfr c hc
      · rw [nI_leI (by omega) (by omega)] at hb
        have hw4 : wd = 1 ∨ wd = 2 ∨ wd = 4 ∨ wd = 8 := by omega
        have inner : ∀ k s c f g F1, J.length ≤ s + k → s ≤ 32 → IS f J.length wd s → LA G F1 z f g → Fr z (z + 3) F0 F1 → c + inv (seg f 0 J.length) = inv (seg f0 0 J.length) → AF G mX4_countInversions 3 0 0 (fun r F' => r = .inl (some (.int (nI (inv (seg f0 0 J.length))))) ∧ LSA G F' z ∧ Fr z (z + 3) F0 F') F1 24 [some (.ref z), some (.ref a), some (.int (nI J.length)), some (.int (nI c)), some (.int (nI wd)), some (.int (nI s))] [] := by
          intro k
          induction k with
          | zero =>
            intro s c f g F1 hk h32 hIS hL hfr hc
            refine AF.iload dX4_countInversions_24 rfl ?_
            refine AF.iload_n dX4_countInversions_26 rfl ?_
            refine AF.icmp_ge 71 dX4_countInversions_27 (by decide) (fun hb2 => ?_) (fun hb2 => ?_)
            · refine AF.iload dX4_countInversions_71 rfl ?_
              refine AF.iconst (nI 2) dX4_countInversions_73 (by decide) ?_
              refine AF.imul dX4_countInversions_74 ?_
              rw [pk_mul]
              refine AF.istore dX4_countInversions_75 (by decide) ?_
              refine AF.goto 15 dX4_countInversions_77 (by decide) ?_
              exact ih (wd * 2) c f g F1 _ (by omega) (by rw [Nat.mul_comm]; exact hIS.last (by omega)) hL hfr hc
            · exact absurd (by rw [nI_leI (by omega) (by omega)]; omega) hb2
          | succ k ih2 =>
            intro s c f g F1 hk h32 hIS hL hfr hc
            refine AF.iload dX4_countInversions_24 rfl ?_
            refine AF.iload_n dX4_countInversions_26 rfl ?_
            refine AF.icmp_ge 71 dX4_countInversions_27 (by decide) (fun hb2 => ?_) (fun hb2 => ?_)
            · rw [nI_leI (by omega) (by omega)] at hb2
              refine AF.iload dX4_countInversions_71 rfl ?_
              refine AF.iconst (nI 2) dX4_countInversions_73 (by decide) ?_
              refine AF.imul dX4_countInversions_74 ?_
              rw [pk_mul]
              refine AF.istore dX4_countInversions_75 (by decide) ?_
              refine AF.goto 15 dX4_countInversions_77 (by decide) ?_
              exact ih (wd * 2) c f g F1 _ (by omega) (by rw [Nat.mul_comm]; exact hIS.last (by omega)) hL hfr hc
            · rw [nI_leI (by omega) (by omega)] at hb2
              obtain ⟨h0, h1, h2⟩ := id hL
              refine AF.iload_n dX4_countInversions_30 rfl ?_
              refine AF.aload_n dX4_countInversions_31 rfl ?_
              refine AF.iload dX4_countInversions_32 rfl ?_
              refine AF.iload dX4_countInversions_34 rfl ?_
              refine AF.iload dX4_countInversions_36 rfl ?_
              refine AF.iadd dX4_countInversions_38 ?_
              rw [nI_add]
              refine AF.iload_n dX4_countInversions_39 rfl ?_
              refine AF.min dX4_countInversions_40 km_X4_28 (Nat.le_of_ble_eq_true rfl) (by decide) ?_
              rw [nI_min (by omega) (by omega)]
              refine AF.iload dX4_countInversions_43 rfl ?_
              refine AF.iconst (nI 2) dX4_countInversions_45 (by decide) ?_
              refine AF.iload dX4_countInversions_46 rfl ?_
              refine AF.imul dX4_countInversions_48 ?_
              rw [pk_mul]
              refine AF.iadd dX4_countInversions_49 ?_
              rw [nI_add]
              refine AF.iload_n dX4_countInversions_50 rfl ?_
              refine AF.min dX4_countInversions_51 km_X4_28 (Nat.le_of_ble_eq_true rfl) (by decide) ?_
              rw [nI_min (by omega) (by omega)]
              obtain ⟨p1, p2⟩ := hIS.parts hw4
              refine AF.vw dX4_countInversions_54 kv_X4_34 (X4_merge_ok hL ha s (min (s + wd) J.length) (min (s + 2 * wd) J.length) (by omega) (by omega) (by omega) p1 p2) (by assumption) rfl rfl rfl (Nat.le_of_ble_eq_true rfl) (by decide) rfl (fun E F9 q => nomatch q.1) (fun v F q => ?_)
              obtain ⟨q, hM, q3⟩ := q
              cases q
              obtain ⟨f', g', hL2, m1, m2, m3⟩ := hM
              refine AF.iadd dX4_countInversions_57 ?_
              rw [nI_add]
              refine AF.istore_n dX4_countInversions_58 (by decide) ?_
              refine AF.iload dX4_countInversions_59 rfl ?_
              refine AF.iconst (nI 2) dX4_countInversions_61 (by decide) ?_
              refine AF.iload dX4_countInversions_62 rfl ?_
              refine AF.imul dX4_countInversions_64 ?_
              rw [pk_mul]
              refine AF.iadd dX4_countInversions_65 ?_
              rw [nI_add]
              refine AF.istore dX4_countInversions_66 (by decide) ?_
              refine AF.goto 24 dX4_countInversions_68 (by decide) ?_
              have hiv := merge_inv (by omega) (by omega) (Nat.min_le_right _ _) m1 p1 p2 m2 m3
              refine ih2 (s + 2 * wd) _ f' g' F (by omega) (by omega) (hIS.next hw4 m1 ?_) hL2 (hfr.trans q3 (Nat.le_refl _) (Nat.le_refl _)) (by omega)
              have := SO.srt _ _ m2
              rw [show s + (min (s + 2 * wd) J.length - s) = min (s + 2 * wd) J.length by omega] at this
              exact this
        refine AF.iconst (nI 0) dX4_countInversions_21 (by decide) ?_
        refine AF.istore dX4_countInversions_22 (by decide) ?_
        exact inner J.length 0 c f g F1 (by omega) (by omega) hIS hL hfr hc
  refine AF.aload_n dX4_countInversions_5 rfl ?_
  refine AF.getfield dX4_countInversions_6 fl_X4_22 (by assumption) rfl ?_
  refine AF.istore_n dX4_countInversions_9 (by decide) ?_
  refine AF.iconst (nI 0) dX4_countInversions_10 (by decide) ?_
  refine AF.istore_n dX4_countInversions_11 (by decide) ?_
  refine AF.iconst (nI 1) dX4_countInversions_12 (by decide) ?_
  refine AF.istore dX4_countInversions_13 (by decide) ?_
  exact outer 4 1 0 f0 g F _ (Or.inl ⟨rfl, rfl⟩) ⟨rfl, fun b _ q => absurd q (Nat.not_lt_zero _), fun b _ _ i j g1 g2 g3 => by omega⟩ hL hfr (Nat.zero_add _)
end

