/-! What the law asks, said of stages: trimming, beats, ranks, crossings. -/
theorem fnd_first {P : Nat → Bool} {n k : Nat} (h : fnd P n = some k) : ∀ i, i < k → P i = false := by
  unfold fnd at h
  rw [List.find?_range_eq_some] at h
  intro i hi
  simpa using h.2.2 i hi
theorem fnd_no {P : Nat → Bool} {n : Nat} (h : fnd P n = none) : ∀ i, i < n → P i = false := by
  unfold fnd at h
  rw [List.find?_range_eq_none] at h
  intro i hi
  simpa using h i hi
theorem sumN_upd {g h : Nat → Nat} {j : Nat} (e : ∀ i, ¬ i = j → g i = h i) : ∀ n, j < n → sumN g n + h j = sumN h n + g j
  | 0, hj => absurd hj (Nat.not_lt_zero _)
  | n + 1, hj => by
    simp only [sumN]
    by_cases q : j = n
    · subst q
      rw [sumN_cg (g := g) (h := h) j (fun i hi => e i (by omega))]
      omega
    · have := sumN_upd e n (by omega)
      have := e n (fun z => q z.symm)
      omega
theorem dem_dec1 {J : List Jt} {j : Nat} (hj : j < J.length) (h : 0 < jo J j) : dem (dec1 J j) + 1 = dem J := by
  have e : ∀ i, ¬ i = j → jo (dec1 J j) i = jo J i := fun i hi => by
    unfold dec1
    rw [jo_set, if_neg (fun q => hi q.1)]
  have ej : jo (dec1 J j) j = jo J j - 1 := by
    unfold dec1
    rw [jo_set, if_pos ⟨rfl, hj⟩]
  have := sumN_upd e J.length hj
  unfold dem
  rw [dec1_len]
  omega
/-- trimming leaves no wild jet, and takes from the demand what it tells -/
theorem trm_ok {cap : Nat} {w : Int32} : ∀ n J, JI J → dem J ≤ n → (∀ j, j < J.length → wld (trm cap w n J).2 cap w j = false) ∧ dem (trm cap w n J).2 + (trm cap w n J).1 = dem J
  | 0, J, hI, hd => by
    refine ⟨fun j hj => ?_, rfl⟩
    cases q : wld J cap w j with
    | false => exact q
    | true =>
      have h1 := wild_open hI q
      have h2 := dem_dec1 hj h1
      omega
  | n + 1, J, hI, hd => by
    simp only [trm]
    cases q : wfst J cap w with
    | none => exact ⟨fun j hj => fnd_no q j hj, rfl⟩
    | some j =>
      obtain ⟨hj, hw⟩ := fnd_spec q
      have h2 := dem_dec1 hj (wild_open hI hw)
      obtain ⟨a1, a2⟩ := trm_ok n (dec1 J j) (JI_dec1 hI) (by omega)
      refine ⟨fun i hi => a1 i (by rw [dec1_len]; exact hi), ?_⟩
      show dem (trm cap w n (dec1 J j)).2 + ((trm cap w n (dec1 J j)).1 + 1) = dem J
      omega
theorem cntB_0 {P : Nat → Bool} : ∀ n, (∀ i, i < n → P i = false) → cntB P n = 0
  | 0, _ => rfl
  | n + 1, h => by
    simp only [cntB]
    rw [cntB_0 n (fun i hi => h i (by omega)), h n (by omega)]
    rfl
theorem aTrm_ok {σ : Sg} {B : Nat} (h : SQ σ B) : cntB (wld (aTrm σ).J (aTrm σ).cap (aTrm σ).w) (aTrm σ).J.length = 0 ∧ dem (aTrm σ).J + (trm σ.cap σ.w 100 σ.J).1 = dem σ.J := by
  have hd := dem_le h.1.1 h.2.2.1
  obtain ⟨a1, a2⟩ := trm_ok (cap := σ.cap) (w := σ.w) 100 σ.J h.1.1 hd
  refine ⟨cntB_0 _ (fun i hi => a1 i ?_), a2⟩
  have hi : i < (trm σ.cap σ.w 100 σ.J).2.length := hi
  rwa [trm_len] at hi
/-! beats -/
theorem nxN_E' {σ : Sg} : ∀ n, (nxN σ n).E.length + nxF σ n = σ.E.length
  | 0 => rfl
  | n + 1 => by
    have := nxN_E' (σ := σ) n
    have h : nxF σ (n + 1) = nxF σ n + nxE (nxN σ n) := rfl
    have h2 : (nxN σ (n + 1)).E = kpE (nxN σ n).Fg ((nxN σ n).bt + 1) (nxN σ n).E := rfl
    have h3 : nxE (nxN σ n) = (nxN σ n).E.length - (kpE (nxN σ n).Fg ((nxN σ n).bt + 1) (nxN σ n).E).length := rfl
    have h4 := kpE_le (Fg := (nxN σ n).Fg) (bt := (nxN σ n).bt + 1) (E := (nxN σ n).E)
    rw [h2, h]
    omega
theorem kpE_kp {Fg : List (List Sp)} {b b' : Nat} (h : b ≤ b') (E : List En) : kpE Fg b' (kpE Fg b E) = kpE Fg b' E := by
  unfold kpE
  rw [List.filter_filter]
  congr 1
  funext p
  by_cases q : b' < p.2 + fln (fg Fg p.1)
  · rw [decide_eq_true q, decide_eq_true (Nat.lt_of_le_of_lt h q)]; rfl
  · rw [decide_eq_false q]; rfl
theorem nxN_Ek {σ : Sg} : ∀ n, (nxN σ (n + 1)).E = kpE σ.Fg (σ.bt + n + 1) σ.E
  | 0 => rfl
  | n + 1 => by
    show kpE (nxN σ (n + 1)).Fg ((nxN σ (n + 1)).bt + 1) (nxN σ (n + 1)).E = _
    rw [nxN_F, nxN_b, nxN_Ek n, kpE_kp (by omega)]
theorem mx1_iff {g : Nat → Nat} {b : Nat} (hb : 1 ≤ b) : ∀ n, mx1 g n ≤ b ↔ ∀ j, j < n → g j ≤ b
  | 0 => ⟨fun _ j hj => absurd hj (Nat.not_lt_zero _), fun _ => hb⟩
  | n + 1 => by
    have ih := mx1_iff (g := g) hb n
    simp only [mx1]
    constructor
    · intro h j hj
      by_cases q : j = n
      · subst q; split at h <;> omega
      · exact ih.mp (by split at h <;> omega) j (by omega)
    · intro h
      have h1 := ih.mpr (fun j hj => h j (by omega))
      have h2 := h n (by omega)
      split <;> assumption
theorem nxN_emp {σ : Sg} {n : Nat} (hn : 1 ≤ n) : (nxN σ n).E.length = 0 ↔ btq σ ≤ n := by
  obtain ⟨m, rfl⟩ : ∃ m, n = m + 1 := ⟨n - 1, by omega⟩
  rw [nxN_Ek]
  unfold btq
  by_cases q : σ.E.length = 0
  · rw [if_pos q]
    have := kpE_le (Fg := σ.Fg) (bt := σ.bt + m + 1) (E := σ.E)
    omega
  · rw [if_neg q, mx1_iff hn, List.length_eq_zero_iff]
    unfold kpE
    rw [List.filter_eq_nil_iff]
    constructor
    · intro h j hj
      have h1 := h _ (en_mem hj)
      have h2 := of_decide_eq_false (by simpa using h1 : decide (σ.bt + m + 1 < (en σ.E j).2 + fln (fg σ.Fg (en σ.E j).1)) = false)
      unfold bte
      omega
    · intro h p hp
      obtain ⟨e, he, rfl⟩ := mem_en hp
      have h1 := h e he
      unfold bte at h1
      simp only [decide_eq_true_eq]
      omega
theorem nxN_wat {σ : Sg} : ∀ n, (nxN σ n).pum + (nxN σ n).sht = σ.pum + σ.sht + sumN (fun i => dem (nxN σ (i + 1)).J) n
  | 0 => rfl
  | n + 1 => by
    have := nxN_wat (σ := σ) n
    have h1 : (nxN σ (n + 1)).pum = (nxN σ n).pum + sup (nxN σ (n + 1)).J (nxN σ n).cap := rfl
    have h2 : (nxN σ (n + 1)).sht = (nxN σ n).sht + (dem (nxN σ (n + 1)).J - sup (nxN σ (n + 1)).J (nxN σ n).cap) := rfl
    have h3 := sup_le (J := (nxN σ (n + 1)).J) (cap := (nxN σ n).cap)
    simp only [sumN]
    rw [h1, h2]
    omega
theorem nxN_sht {σ : Sg} : ∀ n, σ.sht ≤ (nxN σ n).sht ∧ (σ.sht < (nxN σ n).sht ↔ ∃ i, i < n ∧ fovP σ i = true)
  | 0 => ⟨Nat.le_refl _, fun h => absurd h (Nat.lt_irrefl _), fun ⟨i, hi, _⟩ => absurd hi (Nat.not_lt_zero _)⟩
  | n + 1 => by
    obtain ⟨i1, i2⟩ := nxN_sht (σ := σ) n
    have h2 : (nxN σ (n + 1)).sht = (nxN σ n).sht + (dem (nxN σ (n + 1)).J - sup (nxN σ (n + 1)).J (nxN σ n).cap) := rfl
    rw [nxN_c] at h2
    have hf : fovP σ n = decide (σ.cap < dem (nxN σ (n + 1)).J) := rfl
    unfold sup at h2
    refine ⟨by omega, fun h => ?_, fun ⟨i, hi, q⟩ => ?_⟩
    · by_cases q : σ.cap < dem (nxN σ (n + 1)).J
      · exact ⟨n, by omega, by rw [hf]; exact decide_eq_true q⟩
      · rw [if_neg q] at h2
        obtain ⟨i, hi, z⟩ := i2.mp (by omega)
        exact ⟨i, by omega, z⟩
    · by_cases e : i = n
      · subst e
        have q := of_decide_eq_true (hf ▸ q)
        rw [if_pos q] at h2
        omega
      · have := i2.mpr ⟨i, by omega, q⟩
        omega
theorem fov_iff {σ : Sg} {n : Nat} : (fov σ n).isSome = true ↔ ∃ i, i < n ∧ fovP σ i = true := by
  constructor
  · intro h
    obtain ⟨k, hk⟩ := Option.isSome_iff_exists.mp h
    exact ⟨k, fnd_spec hk⟩
  · rintro ⟨i, hi, q⟩
    cases e : fov σ n with
    | some k => rfl
    | none => rw [fnd_no e i hi] at q; cases q
theorem hapE_nil {Fg : List (List Sp)} {b : Nat} {J : List Jt} : hapE Fg [] b J ([] : List En).length = J := rfl
theorem nxN_idle {σ : Sg} (h : σ.E = []) : ∀ n, (nxN σ n).E = [] ∧ (nxN σ n).J = σ.J
  | 0 => ⟨h, rfl⟩
  | n + 1 => by
    obtain ⟨h1, h2⟩ := nxN_idle h n
    refine ⟨?_, ?_⟩
    · show kpE _ _ (nxN σ n).E = []
      rw [h1]; rfl
    · show hapE _ (nxN σ n).E _ (nxN σ n).J (nxN σ n).E.length = _
      rw [h1]; exact h2
/-! the best of them -/
theorem bst_max {f : Nat → Nat} : ∀ n j, j < n → f j ≤ f (bst (fun j b => decide (f b < f j)) n)
  | 0, j, h => absurd h (Nat.not_lt_zero _)
  | n + 1, j, h => by
    simp only [bst]
    have ih := bst_max (f := f) n
    by_cases q : f (bst (fun j b => decide (f b < f j)) n) < f n
    · rw [if_pos (decide_eq_true q)]
      by_cases e : j = n
      · rw [e]; exact Nat.le_refl _
      · have := ih j (by omega); omega
    · rw [if_neg (by simpa using q)]
      by_cases e : j = n
      · rw [e]; omega
      · exact ih j (by omega)
theorem bst_min {f : Nat → Int64} : ∀ n j, j < n → f (bst (fun j b => decide (f j < f b)) n) ≤ f j
  | 0, j, h => absurd h (Nat.not_lt_zero _)
  | n + 1, j, h => by
    simp only [bst]
    have ih := bst_min (f := f) n
    by_cases q : f n < f (bst (fun j b => decide (f j < f b)) n)
    · rw [if_pos (decide_eq_true q)]
      by_cases e : j = n
      · rw [e]; exact Int64.le_refl _
      · exact Int64.le_trans (Int64.le_of_lt q) (ih j (by omega))
    · rw [if_neg (by simpa using q)]
      by_cases e : j = n
      · rw [e]; exact Int64.not_lt.mp q
      · exact ih j (by omega)
theorem hghst_ok {J : List Jt} {cap j : Nat} (hj : j < J.length) : hghst J cap < J.length ∧ hgt cap (dem J) (jo J j) ≤ hgt cap (dem J) (jo J (hghst J cap)) :=
  ⟨bst_lt _ (by omega), bst_max (f := fun j => hgt cap (dem J) (jo J j)) J.length j hj⟩
theorem nrst_ok {J : List Jt} {cap j : Nat} {w p : Int32} (hj : j < J.length) : nrst J cap w p < J.length ∧ dst (lan J cap w (dem J) (nrst J cap w p)) p ≤ dst (lan J cap w (dem J) j) p :=
  ⟨bst_lt _ (by omega), bst_min (f := fun j => dst (lan J cap w (dem J) j) p) J.length j hj⟩
/-! sums over pairs -/
/-- pairs, each once -/
def prO (t : Nat → Nat → Nat) : Nat → Nat
  | 0 => 0
  | n + 1 => prO t n + sumN (fun b => t n b) n
theorem sumN_sq {t : Nat → Nat → Nat} (hd : ∀ a, t a a = 0) : ∀ n, sumN (fun a => sumN (fun b => t a b) n) n = prO (fun a b => t a b + t b a) n
  | 0 => rfl
  | n + 1 => by
    have ih := sumN_sq hd n
    have e1 : sumN (fun a => sumN (fun b => t a b) (n + 1)) (n + 1) = sumN (fun a => sumN (fun b => t a b) n + t a n) n + (sumN (fun b => t n b) n + t n n) := rfl
    have e2 : prO (fun a b => t a b + t b a) (n + 1) = prO (fun a b => t a b + t b a) n + sumN (fun b => t n b + t b n) n := rfl
    rw [e1, e2, sumN_add (g := fun a => sumN (fun b => t a b) n) (h := fun a => t a n), sumN_add (g := fun b => t n b) (h := fun b => t b n), hd n, ih]
    omega
theorem prO_cg {t u : Nat → Nat → Nat} : ∀ n, (∀ a b, b < a → a < n → t a b = u a b) → prO t n = prO u n
  | 0, _ => rfl
  | n + 1, h => by
    simp only [prO]
    rw [prO_cg n (fun a b h1 h2 => h a b h1 (by omega)), sumN_cg n (fun b hb => h n b hb (by omega))]
/-- what the law asks of a pair -/
def crL (J : List Jt) (cap : Nat) (w : Int32) (a b : Nat) : Nat := if (decide (jp J a < jp J b) = decide (lan J cap w (dem J) b < lan J cap w (dem J) a)) ∧ ¬ lan J cap w (dem J) a = lan J cap w (dem J) b then 1 else 0
theorem prs_law {J : List Jt} {cap : Nat} {w : Int32} (h : PD J) : prs J cap w = prO (crL J cap w) J.length := by
  have e : ∀ j, cntB (crs J cap w j) J.length = sumN (fun o => if crs J cap w j o = true then 1 else 0) J.length := fun j => cntB_sum _
  unfold prs
  rw [sumN_cg _ (fun j _ => e j), sumN_sq (t := fun j o => if crs J cap w j o = true then 1 else 0) (fun a => by simp [crs])]
  refine prO_cg _ (fun a b hb ha => ?_)
  have hne : ¬ jp J a = jp J b := fun q => by have := h a b (by omega) (by omega) q; omega
  unfold crL crs
  generalize lan J cap w (dem J) a = x
  generalize lan J cap w (dem J) b = y
  have t1 : x < y ∨ x = y ∨ y < x := by
    rw [Int32.lt_iff_toInt_lt, Int32.lt_iff_toInt_lt, ← Int32.toInt_inj]; omega
  rcases t1 with t | t | t
  · have t2 : ¬ y < x := Int32.not_lt.mpr (Int32.le_of_lt t)
    have t3 : ¬ x = y := fun q => by subst q; exact Int32.lt_irrefl t
    by_cases q : jp J a < jp J b
    · have q2 : ¬ jp J b < jp J a := by omega
      simp [t, t2, t3, q, q2]
    · have q2 : jp J b < jp J a := by omega
      simp [t, t2, t3, q, q2]
  · subst t
    simp [Int32.lt_irrefl]
  · have t2 : ¬ x < y := Int32.not_lt.mpr (Int32.le_of_lt t)
    have t3 : ¬ x = y := fun q => by subst q; exact Int32.lt_irrefl t
    by_cases q : jp J a < jp J b
    · have q2 : ¬ jp J b < jp J a := by omega
      simp [t, t2, t3, q, q2]
    · have q2 : jp J b < jp J a := by omega
      simp [t, t2, t3, q, q2]
/-! figures -/
theorem fus_in {L : List Sp} {k : Nat} (h : k < L.length) : fus L (g3 L k).2.1 = true := by
  unfold fus
  cases e : fnd (fun i => decide ((g3 L i).2.1 = (g3 L k).2.1)) L.length with
  | some i => rfl
  | none =>
    have := fnd_no e k h
    rw [decide_eq_true rfl] at this
    cases this
theorem cntB_pos {P : Nat → Bool} {j : Nat} (h : P j = true) : ∀ n, j < n → 1 ≤ cntB P n
  | 0, hj => absurd hj (Nat.not_lt_zero _)
  | n + 1, hj => by
    simp only [cntB]
    by_cases q : j = n
    · subst q; rw [if_pos h]; omega
    · have := cntB_pos h n (by omega); omega

