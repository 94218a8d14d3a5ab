/-! The wind's range. -/
def WI (σ : Sg) : Prop := -9 ≤ σ.w.toInt ∧ σ.w.toInt ≤ 9
theorem pWnd_I {x : Int32} (h : pWnd x = 0) : -9 ≤ x.toInt ∧ x.toInt ≤ 9 := by
  unfold pWnd at h
  split at h
  · cases h
  · rename_i q
    rw [Int32.lt_iff_toInt_lt, Int32.lt_iff_toInt_lt, show (-9 : Int32).toInt = -9 from by decide, show (9 : Int32).toInt = 9 from by decide] at q
    omega
theorem nxN_w {σ : Sg} : ∀ n, (nxN σ n).w = σ.w
  | 0 => rfl
  | n + 1 => nxN_w (σ := σ) n
theorem aCm_w {σ : Sg} {ns : List Int32} (h : WI σ) : ∀ c, pCm σ c ns = 0 → WI (aCm σ c ns)
  | 0, _ => h
  | 1, _ => h
  | 2, _ => h
  | 3, hp => pWnd_I hp
  | 4, _ => h
  | 5, _ => h
  | 6, _ => h
  | 7, _ => h
  | n + 8, _ => by
    show WI (nxN σ (cl (ar ns 0)))
    unfold WI
    rw [nxN_w]
    exact h
theorem dK_w {σ : Sg} {L : List (Nat × List Int32)} (h : WI σ) : ∀ k, (∀ i, i < k → bad σ L i = false) → WI (dK σ L k)
  | 0, _ => h
  | k + 1, hb => aCm_w (dK_w h k (fun i hi => hb i (by omega))) _ (bad_f (hb k (by omega)))

