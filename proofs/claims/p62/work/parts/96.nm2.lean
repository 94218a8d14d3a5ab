/-! What the law asks of jets. -/
theorem sumN_0 {g : Nat → Nat} : ∀ n, sumN g n = 0 → ∀ i, i < n → g i = 0
  | 0, _, i, hi => absurd hi (Nat.not_lt_zero _)
  | n + 1, h, i, hi => by
    simp only [sumN] at h
    by_cases e : i = n
    · subst e; omega
    · exact sumN_0 n (by omega) i (by omega)
theorem nI_mn {a b : Nat} (ha : a < 2 ^ 31) (hb : b < 2 ^ 31) : (if nI b < nI a then nI b else nI a) = nI (if b < a then b else a) := by
  by_cases q : b < a
  · rw [if_pos q, if_pos ((nI_ltI hb ha).mpr q)]
  · rw [if_neg q, if_neg (fun z => q ((nI_ltI hb ha).mp z))]
theorem bI_add {a : Nat} {b : Bool} : nI a + bI b = nI (a + if b = true then 1 else 0) := by
  cases b with
  | true => exact nI_add a 1
  | false => exact nI_add a 0
theorem hgt_0 {J : List Jt} {cap j : Nat} (h : dem J = 0) (hj : j < J.length) : hgt cap (dem J) (jo J j) = 0 := by
  have := sumN_0 _ h j hj
  rw [h, this]
  unfold hgt
  split <;> simp
theorem hgt_s {J : List Jt} {cap j : Nat} (h : ¬ dem J = 0) : hgt cap (dem J) (jo J j) = 10 * jo J j * sup J cap / dem J := by
  unfold hgt sup
  by_cases q : cap < dem J
  · rw [if_pos q, if_pos q]
  · rw [if_neg q, if_neg q, Nat.mul_div_cancel _ (by omega)]
theorem drift_dec : ∀ h, h < 101 → ∀ k, k < 19 → -46 < (nI h * (nI k - nI 9) / 20).toInt ∧ (nI h * (nI k - nI 9) / 20).toInt < 46 := by decide +kernel
theorem lan_rng {J : List Jt} {cap D j : Nat} {w : Int32} (hw : -9 ≤ w.toInt ∧ w.toInt ≤ 9) (hI : JI J) : -46 < (lan J cap w D j).toInt ∧ (lan J cap w D j).toInt < 146 := by
  have h1 := (hI j).1
  have h2 := hgt_le (cap := cap) (D := D) (hI j).2
  obtain ⟨k, hk⟩ : ∃ k : Nat, (k : Int) = w.toInt + 9 := ⟨(w.toInt + 9).toNat, by omega⟩
  have e : w = nI k - nI 9 := Int32.toInt_inj.mp (by rw [pk_sub_toInt (by omega) (by omega)]; omega)
  have h3 := drift_dec (hgt cap D (jo J j)) (by omega) k (by omega)
  rw [← e] at h3
  unfold lan
  rw [Int32.toInt_add, nI_toInt (by omega), Int.bmod_eq_of_le (by omega) (by omega)]
  omega
theorem add_sub_l (x y : Int32) : x + y - x = y := by rw [Int32.add_comm, Int32.add_sub_cancel]
theorem dst_I {x p : Int32} (hx : -1000 ≤ x.toInt ∧ x.toInt ≤ 1000) (hp : -1000 ≤ p.toInt ∧ p.toInt ≤ 1000) : (dst x p).toInt = if p.toInt < x.toInt then x.toInt - p.toInt else p.toInt - x.toInt := by
  have e : (x.toInt64 - p.toInt64).toInt = x.toInt - p.toInt := by
    rw [Int64.toInt_sub, Int32.toInt_toInt64, Int32.toInt_toInt64]
    exact Int.bmod_eq_of_le (by omega) (by omega)
  unfold dst
  by_cases q : p.toInt < x.toInt
  · rw [if_pos q, if_pos (Int64.lt_iff_toInt_lt.mpr (by rw [e]; show (0 : Int) < _; omega)), e]
  · rw [if_neg q, if_neg (fun z => by have z := Int64.lt_iff_toInt_lt.mp z; rw [e] at z; have z : (0 : Int) < x.toInt - p.toInt := z; omega), Int64.toInt_neg, e]
    rw [Int.bmod_eq_of_le (by omega) (by omega)]
    omega
theorem abs_I {x p : Int32} (hx : -1000 ≤ x.toInt ∧ x.toInt ≤ 1000) (hp : -1000 ≤ p.toInt ∧ p.toInt ≤ 1000) : (if 0 ≤ x - p then x - p else 0 - (x - p)).toInt = if p.toInt < x.toInt then x.toInt - p.toInt else p.toInt - x.toInt := by
  have e : (x - p).toInt = x.toInt - p.toInt := by
    rw [Int32.toInt_sub]
    exact Int.bmod_eq_of_le (by omega) (by omega)
  by_cases q : p.toInt < x.toInt
  · rw [if_pos q, if_pos (Int32.le_iff_toInt_le.mpr (by rw [e]; show (0 : Int) ≤ _; omega)), e]
  · by_cases q2 : x.toInt = p.toInt
    · rw [if_neg q, if_pos (Int32.le_iff_toInt_le.mpr (by rw [e]; show (0 : Int) ≤ _; omega)), e]
      omega
    · rw [if_neg q, if_neg (fun z => by have z := Int32.le_iff_toInt_le.mp z; rw [e] at z; have z : (0 : Int) ≤ x.toInt - p.toInt := z; omega), Int32.toInt_sub, e]
      rw [show (0 : Int32).toInt = 0 from by decide, Int.bmod_eq_of_le (by omega) (by omega)]
      omega
theorem near_ok {x y p : Int32} (hx : -1000 ≤ x.toInt ∧ x.toInt ≤ 1000) (hy : -1000 ≤ y.toInt ∧ y.toInt ≤ 1000) (hp : -1000 ≤ p.toInt ∧ p.toInt ≤ 1000) (h : dst x p ≤ dst y p) : (if 0 ≤ x - p then x - p else 0 - (x - p)) ≤ (if 0 ≤ y - p then y - p else 0 - (y - p)) := by
  rw [Int32.le_iff_toInt_le, abs_I hx hp, abs_I hy hp, ← dst_I hx hp, ← dst_I hy hp]
  exact Int64.le_iff_toInt_le.mp h
theorem flt_g : ∀ d, d < 101 → ∀ s, s < d + 1 → 0 < d → Op.cmpValue (FP.fcmp (FP.fdiv (FP.i2f (nI s)) (FP.i2f (nI d))) (FP.fdiv (FP.i2f (nI s)) (FP.i2f (nI d)))) .l = 0 := by decide +kernel
theorem flt_7 : Op.cmpValue (FP.dcmp 13888230437601411072 13888230437601411072) .l = 0 ∧ Op.cmpValue (FP.fcmp 3320266752 3320266752) .l = 0 := by decide +kernel
/-- ranks in order -/
theorem jbr_lt {J : List Jt} (h : PD J) (hl : J.length ≤ 10) {r : Nat} (h1 : 0 < r) (hr : r < J.length) : jp J (jbr J (r - 1)) < jp J (jbr J r) := by
  obtain ⟨-, a1, a2⟩ := jbr_ok h hl hr
  obtain ⟨-, b1, b2⟩ := jbr_ok h hl (r := r - 1) (by omega)
  exact (rnk_iff b1 a1).mp (by omega)

