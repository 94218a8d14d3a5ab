/-! What each change makes of a stage; its bounds are kept. -/
abbrev cl (x : Int32) : Nat := x.toNatClampNeg
def aJet (σ : Sg) (x : Int32) : Sg := (σ.J ++ [(cl x, 0)], σ.cap, σ.w, σ.Fg, σ.E, σ.bt, σ.pum, σ.sht)
def aRmJ (σ : Sg) (x : Int32) : Sg := (σ.J.eraseIdx (cl x), σ.cap, σ.w, σ.Fg.map (fgt (cl x)), σ.E, σ.bt, σ.pum, σ.sht)
def aOpn (σ : Sg) (x o : Int32) : Sg := (σ.J.set (cl x) (jp σ.J (cl x), cl o), σ.cap, σ.w, σ.Fg, σ.E, σ.bt, σ.pum, σ.sht)
def aCap (σ : Sg) (x : Int32) : Sg := (σ.J, cl x, σ.w, σ.Fg, σ.E, σ.bt, σ.pum, σ.sht)
def aWnd (σ : Sg) (x : Int32) : Sg := (σ.J, σ.cap, x, σ.Fg, σ.E, σ.bt, σ.pum, σ.sht)
def aTrm (σ : Sg) : Sg := ((trm σ.cap σ.w 100 σ.J).2, σ.cap, σ.w, σ.Fg, σ.E, σ.bt, σ.pum, σ.sht)
def aFig (σ : Sg) : Sg := (σ.J, σ.cap, σ.w, σ.Fg ++ [[]], σ.E, σ.bt, σ.pum, σ.sht)
def aRmF (σ : Sg) (x : Int32) : Sg := (σ.J, σ.cap, σ.w, σ.Fg.eraseIdx (cl x), σ.E.map (dcF (cl x)), σ.bt, σ.pum, σ.sht)
def aStp (σ : Sg) (x y z u : Int32) : Sg := (σ.J, σ.cap, σ.w, σ.Fg.set (cl x) (fg σ.Fg (cl x) ++ [(cl y, cl z, cl u)]), σ.E, σ.bt, σ.pum, σ.sht)
def aRmS (σ : Sg) (x y : Int32) : Sg := (σ.J, σ.cap, σ.w, σ.Fg.set (cl x) ((fg σ.Fg (cl x)).eraseIdx (cl y)), σ.E, σ.bt, σ.pum, σ.sht)
def aPly (σ : Sg) (x y : Int32) : Sg := (σ.J, σ.cap, σ.w, σ.Fg, σ.E ++ [(cl x, σ.bt + cl y)], σ.bt, σ.pum, σ.sht)
def aCan (σ : Sg) (x : Int32) : Sg := (σ.J, σ.cap, σ.w, σ.Fg, σ.E.eraseIdx (cl x), σ.bt, σ.pum, σ.sht)
/-- positions differ -/
def PD (J : List Jt) : Prop := ∀ i j, i < J.length → j < J.length → jp J i = jp J j → i = j
/-- a stage as the runs know it: its bounds, its lengths -/
def SQ (σ : Sg) (B : Nat) : Prop := SI σ B ∧ PD σ.J ∧ σ.J.length ≤ 10 ∧ σ.Fg.length ≤ 5 ∧ (∀ i, i < σ.Fg.length → (fg σ.Fg i).length ≤ 8) ∧ σ.E.length ≤ 6
theorem SI.mono {σ : Sg} {B B' : Nat} (h : SI σ B) (hb : B ≤ B') (h2 : B' ≤ 2 ^ 21) : SI σ B' := by
  obtain ⟨h1, h2', h3, h4, h5, h6, h7, h8⟩ := h
  exact ⟨h1, h2', h3, fun e he => ⟨(h4 e he).1, by have := (h4 e he).2; omega⟩, by omega, by omega, by omega, h2⟩
theorem SQ.mono {σ : Sg} {B B' : Nat} (h : SQ σ B) (hb : B ≤ B') (h2 : B' ≤ 2 ^ 21) : SQ σ B' := ⟨h.1.mono hb h2, h.2⟩
theorem rng {x : Int32} {n : Nat} (hn : n < 2 ^ 31) (h1 : ¬ x < 0) (h2 : ¬ nI n < x) : cl x ≤ n ∧ x = nI (cl x) := by
  rcases pk_ix x (show n + 1 < 2 ^ 31 + 1 by omega |> fun _ => hn) with q | q | ⟨j, hj, rfl⟩
  · exact absurd q h1
  · rcases Int32.lt_or_eq_of_le q with q | q
    · exact absurd q h2
    · subst q
      rw [cl, nI_clamp hn]; exact ⟨Nat.le_refl _, rfl⟩
  · rw [cl, nI_clamp (by omega)]; exact ⟨by omega, rfl⟩
theorem hasB_cl {n : Nat} {x : Int32} (hn : n < 2 ^ 31) (h : hasB n x = true) : cl x < n ∧ x = nI (cl x) := by
  obtain ⟨j, hj, rfl⟩ := hasB_nI hn h
  rw [cl, nI_clamp (by omega)]
  exact ⟨hj, rfl⟩
theorem FI.mono {Fg : List (List Sp)} {n n' : Nat} (h : FI Fg n) (hn : n ≤ n') : FI Fg n' := fun i k hk => by
  have := h i k hk; exact ⟨this.1, by omega, this.2.2⟩
theorem g3_mem {L : List Sp} {k : Nat} (h : k < L.length) : g3 L k ∈ L := by
  rw [g3, List.getD_eq_getElem?_getD, List.getElem?_eq_getElem h]; exact List.getElem_mem h
theorem mem_g3 {L : List Sp} {s : Sp} (h : s ∈ L) : ∃ k, k < L.length ∧ g3 L k = s := by
  obtain ⟨e, he, rfl⟩ := List.getElem_of_mem h
  exact ⟨e, he, by rw [g3, List.getD_eq_getElem?_getD, List.getElem?_eq_getElem he]; rfl⟩
theorem FI_fgt {Fg : List (List Sp)} {n x : Nat} (h : FI Fg n) (hx : x < n) : FI (Fg.map (fgt x)) (n - 1) := fun i k hk => by
  by_cases hi : i < Fg.length
  · rw [fg_map hi] at hk ⊢
    have q := g3_mem hk
    rw [fgt] at q
    obtain ⟨s, hs, e⟩ := List.mem_map.mp q
    obtain ⟨hs1, hs2⟩ := List.mem_filter.mp hs
    obtain ⟨k', hk', rfl⟩ := mem_g3 hs1
    have := h i k' hk'
    have hne : ¬ (g3 (fg Fg i) k').2.1 = x := by simpa using hs2
    rw [fgt, ← e]
    dsimp only
    split <;> exact ⟨this.1, by omega, this.2.2⟩
  · rw [fg, List.getD_eq_getElem?_getD, List.getElem?_eq_none (by rw [List.length_map]; omega)] at hk
    exact absurd hk (Nat.not_lt_zero _)
theorem FI_set {Fg : List (List Sp)} {n x : Nat} {L : List Sp} (h : FI Fg n) (hL : ∀ k, k < L.length → (g3 L k).1 ≤ 20 ∧ (g3 L k).2.1 < n ∧ (g3 L k).2.2 ≤ 10) : FI (Fg.set x L) n := fun i k hk => by
  rw [fg, gd_set] at hk ⊢
  split at hk
  · rename_i q; rw [if_pos q]; exact hL k hk
  · rename_i q; rw [if_neg q]; exact h i k hk
theorem FI_app {Fg : List (List Sp)} {n : Nat} (h : FI Fg n) : FI (Fg ++ [[]]) n := fun i k hk => by
  rw [fg, gd_app] at hk ⊢
  split at hk
  · exact absurd hk (Nat.not_lt_zero _)
  · rename_i q; rw [if_neg q]; exact h i k hk
theorem FI_era {Fg : List (List Sp)} {n x : Nat} (h : FI Fg n) : FI (Fg.eraseIdx x) n := fun i k hk => by
  rw [fg, gd_era] at hk ⊢
  split at hk
  · rename_i q; rw [if_pos q]; exact h i k hk
  · rename_i q; rw [if_neg q]; exact h (i + 1) k hk
theorem PD_set {J : List Jt} {j o : Nat} (h : PD J) : PD (J.set j (jp J j, o)) := fun a b ha hb q => by
  rw [List.length_set] at ha hb
  refine h a b ha hb ?_
  rw [jp_set, jp_set] at q
  by_cases h1 : a = j ∧ j < J.length <;> by_cases h2 : b = j ∧ j < J.length
  · rw [h1.1, h2.1]
  · rw [if_pos h1, if_neg h2] at q; rw [h1.1]; exact q
  · rw [if_neg h1, if_pos h2] at q; rw [h2.1]; exact q
  · rw [if_neg h1, if_neg h2] at q; exact q
theorem PD_era {J : List Jt} {x : Nat} (h : PD J) (hx : x < J.length) : PD (J.eraseIdx x) := fun a b ha hb q => by
  rw [List.length_eraseIdx_of_lt hx] at ha hb
  rw [jp_era, jp_era] at q
  split at q <;> split at q
  · exact h a b (by omega) (by omega) q
  · have := h a (b + 1) (by omega) (by omega) q; omega
  · have := h (a + 1) b (by omega) (by omega) q; omega
  · have := h (a + 1) (b + 1) (by omega) (by omega) q; omega
theorem PD_app {J : List Jt} {p : Nat} (h : PD J) (hp : ∀ i, i < J.length → ¬ jp J i = p) : PD (J ++ [(p, 0)]) := fun a b ha hb q => by
  rw [List.length_append, List.length_singleton] at ha hb
  rw [jp_app, jp_app] at q
  split at q <;> split at q
  · omega
  · exact absurd q.symm (hp b (by omega))
  · exact absurd q (hp a (by omega))
  · exact h a b (by omega) (by omega) q
theorem PD_trm {cap : Nat} {w : Int32} : ∀ n J, PD J → PD (trm cap w n J).2
  | 0, J, h => h
  | n + 1, J, h => by
    simp only [trm]
    split
    · exact h
    · exact PD_trm n _ (PD_set h)
theorem PD_hapK {L : List Sp} {st bt : Nat} {J : List Jt} (h : PD J) : ∀ k, PD (hapK L st bt J k)
  | 0 => h
  | k + 1 => by
    simp only [hapK]
    split
    · exact PD_set (PD_hapK h k)
    · exact PD_hapK h k
theorem PD_hapE {Fg : List (List Sp)} {E : List En} {bt : Nat} {J : List Jt} (h : PD J) : ∀ e, PD (hapE Fg E bt J e)
  | 0 => h
  | e + 1 => PD_hapK (PD_hapE h e) _
theorem SQ.jet {σ : Sg} {B : Nat} {x : Int32} (h : SQ σ B) (hp : pAdd σ.J x = 0) : SQ (aJet σ x) B ∧ cl x ≤ 99 ∧ x = nI (cl x) ∧ σ.J.length < 10 := by
  obtain ⟨⟨h1, h2, h3, h4, h5⟩, hd, l1, l2, l3, l4⟩ := h
  unfold pAdd at hp
  split at hp
  · cases hp
  · rename_i q1
    split at hp
    · cases hp
    · rename_i q2
      split at hp
      · rename_i q3
        obtain ⟨e1, e2⟩ := rng (n := 99) (by omega) (fun q => q1 (Or.inl q)) (fun q => q1 (Or.inr q))
        have hlen : (aJet σ x).J.length = σ.J.length + 1 := by show (σ.J ++ [(cl x, 0)]).length = _; simp
        refine ⟨⟨⟨JI_app h1 e1 (Nat.zero_le _), h2, ?_, h4, h5⟩, PD_app hd (fun i hi e => ?_), by rw [hlen]; omega, l2, l3, l4⟩, e1, e2, q3⟩
        · rw [hlen]; exact h3.mono (by omega)
        · apply q2
          rw [Option.isSome_iff_ne_none]
          intro hn
          unfold fnd at hn
          rw [List.find?_range_eq_none] at hn
          have := hn i hi
          rw [e, ← e2] at this
          simp at this
      · cases hp
theorem SQ.rmJ {σ : Sg} {B : Nat} {x : Int32} (h : SQ σ B) (hp : hasB σ.J.length x = true) : SQ (aRmJ σ x) B ∧ cl x < σ.J.length ∧ x = nI (cl x) := by
  obtain ⟨⟨h1, h2, h3, h4, h5⟩, hd, l1, l2, l3, l4⟩ := h
  obtain ⟨e1, e2⟩ := hasB_cl (by omega) hp
  have hlen : (aRmJ σ x).J.length = σ.J.length - 1 := List.length_eraseIdx_of_lt e1
  have hlf : (aRmJ σ x).Fg.length = σ.Fg.length := List.length_map ..
  refine ⟨⟨⟨JI_era h1, h2, ?_, fun e he => ⟨by rw [hlf]; exact (h4 e he).1, (h4 e he).2⟩, h5⟩, PD_era hd e1, by rw [hlen]; omega, by rw [hlf]; exact l2, fun i hi => ?_, l4⟩, e1, e2⟩
  · rw [hlen]; exact FI_fgt h3 e1
  · rw [hlf] at hi
    rw [show fg (aRmJ σ x).Fg i = fgt (cl x) (fg σ.Fg i) from fg_map hi]
    exact Nat.le_trans fgt_le (l3 i hi)
theorem SQ.opn {σ : Sg} {B : Nat} {x o : Int32} (h : SQ σ B) (hp : pOpn σ.J.length x o = 0) : SQ (aOpn σ x o) B ∧ cl x < σ.J.length ∧ x = nI (cl x) ∧ cl o ≤ 10 ∧ o = nI (cl o) := by
  obtain ⟨⟨h1, h2, h3, h4, h5⟩, hd, l1, l2, l3, l4⟩ := h
  unfold pOpn at hp
  split at hp
  · cases hp
  · rename_i q1
    split at hp
    · cases hp
    · rename_i q2
      obtain ⟨e1, e2⟩ := hasB_cl (n := σ.J.length) (x := x) (by omega) (by simpa using q1)
      obtain ⟨e3, e4⟩ := rng (x := o) (n := 10) (by omega) (fun q => q2 (Or.inl q)) (fun q => q2 (Or.inr q))
      have hlen : (aOpn σ x o).J.length = σ.J.length := List.length_set ..
      exact ⟨⟨⟨JI_set h1 (h1 _).1 e3, h2, by rw [hlen]; exact h3, h4, h5⟩, PD_set hd, by rw [hlen]; exact l1, l2, l3, l4⟩, e1, e2, e3, e4⟩
theorem SQ.capq {σ : Sg} {B : Nat} {x : Int32} (h : SQ σ B) (hp : pCap x = 0) : SQ (aCap σ x) B ∧ cl x ≤ 100 ∧ x = nI (cl x) := by
  obtain ⟨⟨h1, h2, h3, h4, h5⟩, hr⟩ := h
  unfold pCap at hp
  split at hp
  · cases hp
  · rename_i q1
    obtain ⟨e1, e2⟩ := rng (n := 100) (by omega) (fun q => q1 (Or.inl q)) (fun q => q1 (Or.inr q))
    exact ⟨⟨⟨h1, e1, h3, h4, h5⟩, hr⟩, e1, e2⟩
theorem SQ.wnd {σ : Sg} {B : Nat} {x : Int32} (h : SQ σ B) : SQ (aWnd σ x) B := h
theorem SQ.trim {σ : Sg} {B : Nat} (h : SQ σ B) : SQ (aTrm σ) B := by
  obtain ⟨⟨h1, h2, h3, h4, h5⟩, hd, l1, l2, l3, l4⟩ := h
  have hlen : (aTrm σ).J.length = σ.J.length := trm_len 100 σ.J
  exact ⟨⟨JI_trm 100 _ h1, h2, by rw [hlen]; exact h3, h4, h5⟩, PD_trm 100 _ hd, by rw [hlen]; exact l1, l2, l3, l4⟩
theorem SQ.fig {σ : Sg} {B : Nat} (h : SQ σ B) (hl : σ.Fg.length < 5) : SQ (aFig σ) B := by
  obtain ⟨⟨h1, h2, h3, h4, h5⟩, hd, l1, l2, l3, l4⟩ := h
  have hlen : (aFig σ).Fg.length = σ.Fg.length + 1 := by show (σ.Fg ++ [[]]).length = _; simp
  refine ⟨⟨h1, h2, FI_app h3, fun e he => ⟨by rw [hlen]; have := (h4 e he).1; show (en σ.E e).1 < _; omega, (h4 e he).2⟩, h5⟩, hd, l1, by rw [hlen]; omega, fun i hi => ?_, l4⟩
  rw [hlen] at hi
  show (fg (σ.Fg ++ [[]]) i).length ≤ 8
  rw [fg, gd_app]
  split
  · exact Nat.zero_le _
  · exact l3 i (by omega)
theorem SQ.rmF {σ : Sg} {B : Nat} {x : Int32} (h : SQ σ B) (hp : pDrF σ x = 0) : SQ (aRmF σ x) B ∧ cl x < σ.Fg.length ∧ x = nI (cl x) := by
  obtain ⟨⟨h1, h2, h3, h4, h5⟩, hd, l1, l2, l3, l4⟩ := h
  unfold pDrF at hp
  split at hp
  · cases hp
  · rename_i q1
    split at hp
    · cases hp
    · rename_i q2
      obtain ⟨e1, e2⟩ := hasB_cl (n := σ.Fg.length) (x := x) (by omega) (by simpa using q1)
      have hlen : (aRmF σ x).Fg.length = σ.Fg.length - 1 := List.length_eraseIdx_of_lt e1
      have hle : (aRmF σ x).E.length = σ.E.length := List.length_map ..
      refine ⟨⟨⟨h1, h2, FI_era h3, fun e he => ?_, h5⟩, hd, l1, by rw [hlen]; omega, fun i hi => ?_, by rw [hle]; exact l4⟩, e1, e2⟩
      · rw [hle] at he
        rw [hlen, show en (aRmF σ x).E e = dcF (cl x) (en σ.E e) from en_map he]
        have q3 := h4 e he
        have q4 : ¬ (en σ.E e).1 = cl x := fun q => by
          apply q2
          rw [Option.isSome_iff_ne_none]
          intro hn
          unfold fnd at hn
          rw [List.find?_range_eq_none] at hn
          have := hn e he
          rw [q, ← e2] at this
          simp at this
        unfold dcF
        dsimp only
        split <;> exact ⟨by omega, q3.2⟩
      · rw [hlen] at hi
        show (fg (σ.Fg.eraseIdx (cl x)) i).length ≤ 8
        rw [fg, gd_era]
        split
        · exact l3 i (by omega)
        · exact l3 (i + 1) (by omega)
theorem SQ.stp {σ : Sg} {B : Nat} {x y z u : Int32} (h : SQ σ B) (hp : pStp σ x y z u = 0) : SQ (aStp σ x y z u) B ∧ (cl x < σ.Fg.length ∧ x = nI (cl x)) ∧ (cl y ≤ 20 ∧ y = nI (cl y)) ∧ (cl z < σ.J.length ∧ z = nI (cl z)) ∧ (cl u ≤ 10 ∧ u = nI (cl u)) ∧ (fg σ.Fg (cl x)).length < 8 := by
  obtain ⟨⟨h1, h2, h3, h4, h5⟩, hd, l1, l2, l3, l4⟩ := h
  unfold pStp at hp
  split at hp
  · cases hp
  · rename_i q1
    split at hp
    · cases hp
    · rename_i q2
      split at hp
      · rename_i q3
        have ex := hasB_cl (n := σ.Fg.length) (x := x) (by omega) (by cases q : hasB σ.Fg.length x with | true => rfl | false => exact absurd (Or.inl q) q1)
        have ez := hasB_cl (n := σ.J.length) (x := z) (by omega) (by cases q : hasB σ.J.length z with | true => rfl | false => exact absurd (Or.inr q) q1)
        have ey := rng (x := y) (n := 20) (by omega) (fun q => q2 (Or.inl (Or.inl q))) (fun q => q2 (Or.inl (Or.inr q)))
        have eu := rng (x := u) (n := 10) (by omega) (fun q => q2 (Or.inr (Or.inl q))) (fun q => q2 (Or.inr (Or.inr q)))
        have hlen : (aStp σ x y z u).Fg.length = σ.Fg.length := List.length_set ..
        refine ⟨⟨⟨h1, h2, FI_set h3 (fun k hk => ?_), fun e he => ⟨by rw [hlen]; exact (h4 e he).1, (h4 e he).2⟩, h5⟩, hd, l1, by rw [hlen]; exact l2, fun i hi => ?_, l4⟩, ex, ey, ez, eu, q3⟩
        · rw [List.length_append, List.length_singleton] at hk
          rw [g3, gd_app]
          split
          · exact ⟨ey.1, ez.1, eu.1⟩
          · exact h3 _ k (by omega)
        · rw [hlen] at hi
          show (fg (σ.Fg.set _ _) i).length ≤ 8
          rw [fg, gd_set]
          split
          · rw [List.length_append, List.length_singleton]; exact q3
          · exact l3 i hi
      · cases hp
theorem SQ.rmS {σ : Sg} {B : Nat} {x y : Int32} (h : SQ σ B) (hp : hsB σ.Fg x y = true) : SQ (aRmS σ x y) B ∧ (cl x < σ.Fg.length ∧ x = nI (cl x)) ∧ cl y < (fg σ.Fg (cl x)).length ∧ y = nI (cl y) := by
  obtain ⟨⟨h1, h2, h3, h4, h5⟩, hd, l1, l2, l3, l4⟩ := h
  unfold hsB at hp
  rw [Bool.and_eq_true] at hp
  have ex := hasB_cl (by omega) hp.1
  have ey : cl y < (fg σ.Fg (cl x)).length ∧ y = nI (cl y) := hasB_cl (by have := l3 _ ex.1; exact Nat.lt_of_le_of_lt this (by omega)) hp.2
  have hlen : (aRmS σ x y).Fg.length = σ.Fg.length := List.length_set ..
  have hle : ((fg σ.Fg (cl x)).eraseIdx (cl y)).length = (fg σ.Fg (cl x)).length - 1 := List.length_eraseIdx_of_lt ey.1
  refine ⟨⟨⟨h1, h2, FI_set h3 (fun k hk => ?_), fun e he => ⟨by rw [hlen]; exact (h4 e he).1, (h4 e he).2⟩, h5⟩, hd, l1, by rw [hlen]; exact l2, fun i hi => ?_, l4⟩, ex, ey⟩
  · rw [hle] at hk
    rw [g3, gd_era]
    split
    · exact h3 _ k (by omega)
    · exact h3 _ (k + 1) (by omega)
  · rw [hlen] at hi
    show (fg (σ.Fg.set _ _) i).length ≤ 8
    rw [fg, gd_set]
    split
    · rw [hle]; have := l3 _ ex.1; omega
    · exact l3 i hi
theorem rng1 {x : Int32} {n : Nat} (hn : n < 2 ^ 31) (h1 : ¬ x < 1) (h2 : ¬ nI n < x) : 1 ≤ cl x ∧ cl x ≤ n ∧ x = nI (cl x) := by
  obtain ⟨e1, e2⟩ := rng hn (fun q => h1 (Int32.lt_trans q (by decide))) h2
  refine ⟨?_, e1, e2⟩
  rw [e2] at h1
  have : ¬ (nI (cl x) < nI 1) := h1
  rw [nI_ltI (by omega) (by omega)] at this
  omega
theorem SQ.ply {σ : Sg} {B : Nat} {x y : Int32} (h : SQ σ B) (hp : pPly σ x y = 0) : SQ (aPly σ x y) B ∧ (cl x < σ.Fg.length ∧ x = nI (cl x)) ∧ (1 ≤ cl y ∧ cl y ≤ 30 ∧ y = nI (cl y)) ∧ σ.E.length < 6 := by
  obtain ⟨⟨h1, h2, h3, h4, h5⟩, hd, l1, l2, l3, l4⟩ := h
  unfold pPly at hp
  split at hp
  · cases hp
  · rename_i q1
    split at hp
    · cases hp
    · rename_i q2
      split at hp
      · rename_i q3
        have ex := hasB_cl (n := σ.Fg.length) (x := x) (by omega) (by simpa using q1)
        have ey := rng1 (x := y) (n := 30) (by omega) (fun q => q2 (Or.inl q)) (fun q => q2 (Or.inr q))
        have hlen : (aPly σ x y).E.length = σ.E.length + 1 := by show (σ.E ++ [_]).length = _; simp
        refine ⟨⟨⟨h1, h2, h3, fun e he => ?_, h5⟩, hd, l1, l2, l3, by rw [hlen]; omega⟩, ex, ey, q3⟩
        rw [hlen] at he
        show (en (σ.E ++ [_]) e).1 < σ.Fg.length ∧ _
        rw [show (aPly σ x y).E = σ.E ++ [(cl x, σ.bt + cl y)] from rfl, en_app]
        split
        · have := h5.1; exact ⟨ex.1, by dsimp only; omega⟩
        · exact h4 e (by omega)
      · cases hp
theorem SQ.can {σ : Sg} {B : Nat} {x : Int32} (h : SQ σ B) (hp : hasB σ.E.length x = true) : SQ (aCan σ x) B ∧ cl x < σ.E.length ∧ x = nI (cl x) := by
  obtain ⟨⟨h1, h2, h3, h4, h5⟩, hd, l1, l2, l3, l4⟩ := h
  have ex := hasB_cl (by omega) hp
  have hlen : (aCan σ x).E.length = σ.E.length - 1 := List.length_eraseIdx_of_lt ex.1
  refine ⟨⟨⟨h1, h2, h3, fun e he => ?_, h5⟩, hd, l1, l2, l3, by rw [hlen]; omega⟩, ex⟩
  rw [hlen] at he
  show (en (σ.E.eraseIdx _) e).1 < _ ∧ (en (σ.E.eraseIdx _) e).2 ≤ _
  rw [en_era]
  split
  · exact h4 e (by omega)
  · exact h4 (e + 1) (by omega)
theorem SQ.nx {σ : Sg} {B : Nat} (h : SQ σ B) (hB : B < 2 ^ 21) : SQ (nxB σ) (B + 1) := by
  obtain ⟨h1, hd, l1, l2, l3, l4⟩ := h
  have hlen : (nxB σ).J.length = σ.J.length := nxJ_len
  exact ⟨SI_nx h1 hB l1, PD_hapE hd _, by rw [hlen]; exact l1, l2, l3, Nat.le_trans kpE_le l4⟩
theorem SQ.nxN {σ : Sg} {B : Nat} (h : SQ σ B) : ∀ n, B + n ≤ 2 ^ 21 → SQ (nxN σ n) (B + n)
  | 0, _ => h
  | n + 1, hn => (h.nxN n (by omega)).nx (by omega)

