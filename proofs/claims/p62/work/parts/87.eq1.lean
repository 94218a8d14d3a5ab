/-! The forecast by the last steps is the forecast by beats; ranks. -/
def hpK (L : List Sp) (st t x o : Nat) : Nat → Nat
  | 0 => o
  | k + 1 => if st + (g3 L k).1 = t ∧ (g3 L k).2.1 = x then (g3 L k).2.2 else hpK L st t x o k
def hpE (Fg : List (List Sp)) (E : List En) (t x o : Nat) : Nat → Nat
  | 0 => o
  | e + 1 => hpK (fg Fg (en E e).1) (en E e).2 t x (hpE Fg E t x o e) (fg Fg (en E e).1).length
theorem hpK_hap {L : List Sp} {st t x : Nat} {J : List Jt} (hx : x < J.length) : ∀ k, jo (hapK L st t J k) x = hpK L st t x (jo J x) k
  | 0 => rfl
  | k + 1 => by
    have ih := hpK_hap (L := L) (st := st) (t := t) hx k
    simp only [hapK, hpK]
    by_cases h1 : st + (g3 L k).1 = t
    · rw [if_pos h1, jo_set, hapK_len]
      by_cases h2 : (g3 L k).2.1 = x
      · rw [if_pos ⟨h2.symm, by omega⟩, if_pos ⟨h1, h2⟩]
      · rw [if_neg (fun q => h2 q.1.symm), if_neg (fun q => h2 q.2)]; exact ih
    · rw [if_neg h1, if_neg (fun q => h1 q.1)]; exact ih
theorem hpE_hap {Fg : List (List Sp)} {E : List En} {t x : Nat} {J : List Jt} (hx : x < J.length) : ∀ e, jo (hapE Fg E t J e) x = hpE Fg E t x (jo J x) e
  | 0 => rfl
  | e + 1 => by
    simp only [hapE, hpE]
    rw [hpK_hap (by rw [hapE_len]; exact hx), hpE_hap hx e]
theorem hpK_no {L : List Sp} {st t x o : Nat} (h : ∀ k, k < L.length → ¬ st + (g3 L k).1 = t) : ∀ k, k ≤ L.length → hpK L st t x o k = o
  | 0, _ => rfl
  | k + 1, hk => by
    simp only [hpK]
    rw [if_neg (fun q => h k (by omega) q.1)]
    exact hpK_no h k (by omega)
def hpL (Fg : List (List Sp)) (t x o : Nat) (E : List En) : Nat := E.foldl (fun o p => hpK (fg Fg p.1) p.2 t x o (fg Fg p.1).length) o
theorem hpE_L {Fg : List (List Sp)} {E : List En} {t x o : Nat} : ∀ e, e ≤ E.length → hpE Fg E t x o e = hpL Fg t x o (E.take e)
  | 0, _ => by simp [hpE, hpL]
  | e + 1, he => by
    have h1 : en E e = E[e] := by rw [en, List.getD_eq_getElem?_getD, List.getElem?_eq_getElem (by omega)]; rfl
    simp only [hpE]
    rw [hpE_L e (by omega), List.take_succ_eq_append_getElem (by omega), hpL, hpL, List.foldl_append, List.foldl_cons, List.foldl_nil, h1]
theorem mxN_ge {g : Nat → Nat} : ∀ n j, j < n → g j ≤ mxN g n
  | 0, j, h => absurd h (Nat.not_lt_zero _)
  | n + 1, j, h => by
    simp only [mxN]
    by_cases e : j = n
    · subst e; split <;> omega
    · have := mxN_ge (g := g) n j (by omega)
      split <;> omega
theorem fln_ge {L : List Sp} {k : Nat} (h : k < L.length) : (g3 L k).1 ≤ fln L := mxN_ge (g := fun k => (g3 L k).1) L.length k h
theorem hpL_kp {Fg : List (List Sp)} {b t x : Nat} (hb : b < t) : ∀ (E : List En) (o : Nat), hpL Fg t x o (kpE Fg b E) = hpL Fg t x o E
  | [], _ => rfl
  | p :: E, o => by
    by_cases q : b < p.2 + fln (fg Fg p.1)
    · rw [kpE, List.filter_cons_of_pos (p := fun p : En => decide (b < p.2 + fln (fg Fg p.1))) (decide_eq_true q)]
      exact hpL_kp hb E _
    · rw [kpE, List.filter_cons_of_neg (p := fun p : En => decide (b < p.2 + fln (fg Fg p.1))) (fun h => q (of_decide_eq_true h))]
      have h1 := hpL_kp (Fg := Fg) (x := x) hb E o
      have h2 : hpK (fg Fg p.1) p.2 t x o (fg Fg p.1).length = o := hpK_no (fun k hk e => by have := fln_ge hk; omega) _ (Nat.le_refl _)
      have h3 : hpL Fg t x o (p :: E) = hpL Fg t x (hpK (fg Fg p.1) p.2 t x o (fg Fg p.1).length) E := rfl
      rw [h3, h2]
      exact h1
theorem nxN_F {σ : Sg} : ∀ n, (nxN σ n).Fg = σ.Fg
  | 0 => rfl
  | n + 1 => nxN_F n
theorem nxN_b {σ : Sg} : ∀ n, (nxN σ n).bt = σ.bt + n
  | 0 => rfl
  | n + 1 => by
    show (nxN σ n).bt + 1 = _
    rw [nxN_b n]; omega
theorem hpL_nx {σ : Sg} {t x o : Nat} : ∀ n, σ.bt + n < t → hpL σ.Fg t x o (nxN σ n).E = hpL σ.Fg t x o σ.E
  | 0, _ => rfl
  | n + 1, h => by
    show hpL σ.Fg t x o (kpE (nxN σ n).Fg ((nxN σ n).bt + 1) (nxN σ n).E) = _
    rw [nxN_F, hpL_kp (by rw [nxN_b]; omega)]
    exact hpL_nx n (by omega)
theorem jo_nx {σ : Sg} {x n : Nat} (hx : x < σ.J.length) : jo (nxN σ (n + 1)).J x = hpL σ.Fg (σ.bt + n + 1) x (jo (nxN σ n).J x) σ.E := by
  show jo (hapE (nxN σ n).Fg (nxN σ n).E ((nxN σ n).bt + 1) (nxN σ n).J (nxN σ n).E.length) x = _
  rw [hpE_hap (by rw [nxN_J]; exact hx), nxN_F, nxN_b, hpE_L _ (Nat.le_refl _), List.take_length, hpL_nx n (by omega)]
/-- last steps up to m + 1, up to m, and what happens at m + 1 -/
def lsR (m : Nat) (qa qb : Nat × Nat) (h : Nat → Nat) : Prop := qb.1 ≤ m + 1 ∧ ((qa = qb ∧ ∀ o, h o = o) ∨ (qa.1 = m + 1 ∧ ∀ o, h o = qa.2))
theorem lsR_K {L : List Sp} {st x m : Nat} {qa qb : Nat × Nat} {h : Nat → Nat} (H : lsR m qa qb h) : ∀ k, lsR m (lsK L st x (m + 1) qa k) (lsK L st x m qb k) (fun o => hpK L st (m + 1) x (h o) k)
  | 0 => H
  | k + 1 => by
    obtain ⟨i1, i2⟩ := lsR_K (L := L) (st := st) (x := x) H k
    simp only [lsK, hpK]
    generalize lsK L st x (m + 1) qa k = a at i2 ⊢
    generalize lsK L st x m qb k = b at i1 i2 ⊢
    obtain ⟨d, hd⟩ : ∃ d, d = st + (g3 L k).1 := ⟨_, rfl⟩
    rw [← hd]
    by_cases hx : (g3 L k).2.1 = x
    · by_cases e : d = m + 1
      · rw [if_neg (show ¬ ((g3 L k).2.1 = x ∧ b.1 ≤ d ∧ d ≤ m) by omega)]
        have ha : a.1 ≤ d := by
          rcases i2 with ⟨e2, -⟩ | ⟨e2, -⟩
          · rw [e2]; omega
          · omega
        rw [if_pos ⟨hx, ha, by omega⟩]
        refine ⟨i1, Or.inr ⟨e, fun o => ?_⟩⟩
        exact if_pos ⟨e, hx⟩
      · have h1 : ∀ o : Nat, (if d = m + 1 ∧ (g3 L k).2.1 = x then (g3 L k).2.2 else hpK L st (m + 1) x (h o) k) = hpK L st (m + 1) x (h o) k := fun o => if_neg (fun q => e q.1)
        simp only [h1]
        rcases i2 with ⟨e2, e3⟩ | ⟨e2, e3⟩
        · subst e2
          by_cases q : a.1 ≤ d ∧ d ≤ m
          · rw [if_pos ⟨hx, q.1, by omega⟩, if_pos ⟨hx, q.1, q.2⟩]
            exact ⟨by show d ≤ m + 1; omega, Or.inl ⟨rfl, e3⟩⟩
          · rw [if_neg (fun z => q ⟨z.2.1, by omega⟩), if_neg (fun z => q ⟨z.2.1, z.2.2⟩)]
            exact ⟨i1, Or.inl ⟨rfl, e3⟩⟩
        · rw [if_neg (show ¬ ((g3 L k).2.1 = x ∧ a.1 ≤ d ∧ d ≤ m + 1) by omega)]
          refine ⟨?_, Or.inr ⟨e2, e3⟩⟩
          split
          · rename_i z; show d ≤ m + 1; omega
          · exact i1
    · rw [if_neg (fun q => hx q.1), if_neg (fun q => hx q.1)]
      have h1 : ∀ o : Nat, (if d = m + 1 ∧ (g3 L k).2.1 = x then (g3 L k).2.2 else hpK L st (m + 1) x (h o) k) = hpK L st (m + 1) x (h o) k := fun o => if_neg (fun q => hx q.2)
      simp only [h1]
      exact ⟨i1, i2⟩
theorem lsR_E {Fg : List (List Sp)} {E : List En} {x m : Nat} {q : Nat × Nat} (hq : q.1 ≤ m + 1) : ∀ e, lsR m (lsE Fg E x (m + 1) q e) (lsE Fg E x m q e) (fun o => hpE Fg E (m + 1) x o e)
  | 0 => ⟨hq, Or.inl ⟨rfl, fun _ => rfl⟩⟩
  | e + 1 => lsR_K (lsR_E hq e) _
theorem lsO_nx {σ : Sg} {x n : Nat} : lsO σ x (σ.bt + n + 1) = hpL σ.Fg (σ.bt + n + 1) x (lsO σ x (σ.bt + n)) σ.E := by
  obtain ⟨-, h⟩ := lsR_E (Fg := σ.Fg) (E := σ.E) (x := x) (m := σ.bt + n) (q := (σ.bt + 1, jo σ.J x)) (by dsimp only; omega) σ.E.length
  have e := fun o => hpE_L (Fg := σ.Fg) (E := σ.E) (t := σ.bt + n + 1) (x := x) (o := o) σ.E.length (Nat.le_refl _)
  rw [List.take_length] at e
  simp only [e] at h
  unfold lsO
  rcases h with ⟨h1, h2⟩ | ⟨-, h2⟩
  · rw [h2, h1]
  · rw [h2]
theorem lsK_no {L : List Sp} {st x last : Nat} {q : Nat × Nat} (h : last < q.1) : ∀ k, lsK L st x last q k = q
  | 0 => rfl
  | k + 1 => by
    simp only [lsK]
    rw [lsK_no h k, if_neg (by omega)]
theorem lsE_no {Fg : List (List Sp)} {E : List En} {x last : Nat} {q : Nat × Nat} (h : last < q.1) : ∀ e, lsE Fg E x last q e = q
  | 0 => rfl
  | e + 1 => by
    simp only [lsE]
    rw [lsE_no h e, lsK_no h]
theorem lsO_eq {σ : Sg} {x : Nat} (hx : x < σ.J.length) : ∀ n, lsO σ x (σ.bt + n) = jo (nxN σ n).J x
  | 0 => by
    unfold lsO
    rw [lsE_no (by dsimp only; omega)]
    rfl
  | n + 1 => by
    rw [jo_nx hx, ← lsO_eq hx n]
    exact lsO_nx
theorem lsD_eq {σ : Sg} (n : Nat) : lsD σ n = dem (nxN σ n).J := by
  unfold lsD dem
  rw [nxN_J]
  exact sumN_cg _ (fun i hi => lsO_eq hi n)
theorem rk_has {J : List Jt} (h : PD J) (hl : J.length ≤ 10) (x : Int32) : hasB J.length x = (fnd (fun j => decide (nI (rnk J j) = x)) J.length).isSome := by
  have ro := h.ro
  cases q : hasB J.length x with
  | true =>
    obtain ⟨j, hj, rfl⟩ := hasB_nI (by omega) q
    obtain ⟨i, hi, e⟩ := ro.hit hj
    symm
    rw [Option.isSome_iff_ne_none]
    intro hn
    unfold fnd at hn
    rw [List.find?_range_eq_none] at hn
    have := hn i hi
    rw [e] at this
    simp at this
  | false =>
    symm
    rw [Option.isSome_eq_false_iff, Option.isNone_iff_eq_none]
    refine fnd_none (fun i hi => decide_eq_false (fun e => ?_))
    rw [← e, hasB_of (by omega) (ro.1 i hi)] at q
    cases q

