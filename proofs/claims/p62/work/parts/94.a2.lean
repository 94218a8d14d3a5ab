/-! What the law knows of each call. -/
/-- a change of the stage, or none -/
def chY (Y : YS) (σ : Sg) (p : Nat) : YS := if p = 0 then (σ, Y.2.1, pushH Y.2.2 Y.1) else Y
theorem chY_x {X : XS} {Y : YS} {tx : List Int32} (h : X.sg = Y.1 ∧ X.sv = Y.2.1 ∧ X.hs = Y.2.2 ∧ X.tx = tx) (σ : Sg) (p : Nat) : (chX X σ p).sg = (chY Y σ p).1 ∧ (chX X σ p).sv = (chY Y σ p).2.1 ∧ (chX X σ p).hs = (chY Y σ p).2.2 ∧ (chX X σ p).tx = tx := by
  unfold chX chY
  obtain ⟨h1, h2, h3, h4⟩ := h
  split
  · refine ⟨rfl, h2, ?_, h4⟩
    show pushH X.hs X.sg = _
    rw [h1, h3]
  · exact ⟨h1, h2, h3, h4⟩
theorem hsB_of {L : List (List Sp)} {i k : Nat} (hi : i < L.length) (hl : L.length ≤ 5) (hk : k < (fg L i).length) (h8 : (fg L i).length ≤ 8) : hsB L (nI i) (nI k) = true := by
  unfold hsB
  rw [hasB_of (by omega) hi, nI_clamp (by omega), hasB_of (by omega) hk]
  rfl
theorem hasB_no {n j : Nat} (hn : n < 2 ^ 31) (hj : j < 2 ^ 31) (h : n ≤ j) : hasB n (nI j) = false := by
  unfold hasB
  rw [decide_eq_false (nI_nlt h hj), Bool.and_false]
theorem hsB_no {L : List (List Sp)} {i : Nat} (hi : i < L.length) (hl : L.length ≤ 5) (h8 : (fg L i).length ≤ 8) : hsB L (nI i) (nI (fg L i).length) = false := by
  unfold hsB
  rw [nI_clamp (by omega), hasB_no (by omega) (by omega) (Nat.le_refl _), Bool.and_false]
theorem inB_of {n : Nat} (h : n ≤ 40) : inB (nI n) 0 40 = true := by
  unfold inB
  rw [decide_eq_true (nI_pos' (by omega)), decide_eq_true (show nI n ≤ (40 : Int32) from (nI_leI (b := 40) (by omega) (by decide)).mpr h)]
  rfl
theorem fnd_nb {P : Nat → Bool} {n : Nat} (h : fnd P n = none) : ∀ i, i < n → P i = false := by
  unfold fnd at h
  rw [List.find?_range_eq_none] at h
  intro i hi
  simpa using h i hi
/-- the jet of a rank -/
def jbr (J : List Jt) (r : Nat) : Nat := (fnd (fun j => decide (nI (rnk J j) = nI r)) J.length).getD 0
theorem jbr_ok {J : List Jt} (h : PD J) (hl : J.length ≤ 10) {r : Nat} (hr : r < J.length) : (fnd (fun j => decide (nI (rnk J j) = nI r)) J.length).isSome = true ∧ jbr J r < J.length ∧ rnk J (jbr J r) = r := by
  have h1 : (fnd (fun j => decide (nI (rnk J j) = nI r)) J.length).isSome = true := by
    rw [← rk_has h hl, hasB_of (by omega) hr]
  obtain ⟨k, hk⟩ := Option.isSome_iff_exists.mp h1
  obtain ⟨h2, h3⟩ := fnd_spec hk
  have h4 : jbr J r = k := by unfold jbr; rw [hk]; rfl
  have h5 := of_decide_eq_true h3
  have h6 := h.ro.1 k h2
  rw [nI_eq (by omega) (by omega)] at h5
  exact ⟨h1, by rw [h4]; exact h2, by rw [h4]; exact h5⟩
/-- the first overload among n beats, as told -/
def ovl (σ : Sg) (n : Nat) : Int32 := match fov σ n with
  | some k => nI (k + 1)
  | none => -7500
section
variable {G : GA} {F : AH} {c bv B : Nat} {Y : YS} {tx T : List Int32}
theorem Y_any {mi : MI} {a b d : Nat} {args : List Value} {X : XS} {v : Value} (h : X.sg = Y.1 ∧ X.sv = Y.2.1 ∧ X.hs = Y.2.2 ∧ X.tx = tx) (hI : XI X B) (hz : c + 131 ≤ F.1) (q : AC G mi d a b args F (XQ G c bv X (.inl (some v)) F)) : AC G mi d a b args F (LR (LKt G c Y B tx) c bv F v) := q.imp (LR.xq hz h hI)
theorem Y_jetCount (hK : LK G c Y B bv F) : AC G mX8_jetCount 11 0 0 [.ref c] F (LR (LK G c Y B) c bv F (.int (nI Y.1.J.length))) := by
  obtain ⟨X, h, hI, hC, hz⟩ := hK
  have q := X8_jetCount_ok hC
  rw [h.1] at q
  exact Y_any h hI hz q
theorem Y_capacity (hK : LK G c Y B bv F) : AC G mX8_capacity 11 0 0 [.ref c] F (LR (LK G c Y B) c bv F (.int (nI Y.1.cap))) := by
  obtain ⟨X, h, hI, hC, hz⟩ := hK
  have q := X8_capacity_ok hC
  rw [h.1] at q
  exact Y_any h hI hz q
theorem Y_wind (hK : LK G c Y B bv F) : AC G mX8_wind 11 0 0 [.ref c] F (LR (LK G c Y B) c bv F (.int Y.1.w)) := by
  obtain ⟨X, h, hI, hC, hz⟩ := hK
  have q := X8_wind_ok hC
  rw [h.1] at q
  exact Y_any h hI hz q
theorem Y_figureCount (hK : LK G c Y B bv F) : AC G mX8_figureCount 11 0 0 [.ref c] F (LR (LK G c Y B) c bv F (.int (nI Y.1.Fg.length))) := by
  obtain ⟨X, h, hI, hC, hz⟩ := hK
  have q := X8_figureCount_ok hC
  rw [h.1] at q
  exact Y_any h hI hz q
theorem Y_beat (hK : LK G c Y B bv F) : AC G mX8_beat 11 0 0 [.ref c] F (LR (LK G c Y B) c bv F (.int (nI Y.1.bt))) := by
  obtain ⟨X, h, hI, hC, hz⟩ := hK
  have q := X8_beat_ok hC
  rw [h.1] at q
  exact Y_any h hI hz q
theorem Y_queueLength (hK : LK G c Y B bv F) : AC G mX8_queueLength 11 0 0 [.ref c] F (LR (LK G c Y B) c bv F (.int (nI Y.1.E.length))) := by
  obtain ⟨X, h, hI, hC, hz⟩ := hK
  have q := X8_queueLength_ok hC
  rw [h.1] at q
  exact Y_any h hI hz q
theorem Y_pumped (hK : LK G c Y B bv F) : AC G mX8_pumped 11 0 0 [.ref c] F (LR (LK G c Y B) c bv F (.long (nL Y.1.pum))) := by
  obtain ⟨X, h, hI, hC, hz⟩ := hK
  have q := X8_pumped_ok hC
  rw [h.1] at q
  exact Y_any h hI hz q
theorem Y_shortage (hK : LK G c Y B bv F) : AC G mX8_shortage 11 0 0 [.ref c] F (LR (LK G c Y B) c bv F (.long (nL Y.1.sht))) := by
  obtain ⟨X, h, hI, hC, hz⟩ := hK
  have q := X8_shortage_ok hC
  rw [h.1] at q
  exact Y_any h hI hz q
theorem Y_wildCount (hK : LK G c Y B bv F) : AC G mX8_wildCount 11 0 0 [.ref c] F (LR (LK G c Y B) c bv F (.int (nI (cntB (wld Y.1.J Y.1.cap Y.1.w) Y.1.J.length)))) := by
  obtain ⟨X, h, hI, hC, hz⟩ := hK
  have q := X8_wildCount_ok hC hI.1
  rw [h.1] at q
  exact Y_any h hI hz q
theorem Y_crossings (hK : LK G c Y B bv F) : AC G mX8_crossings 11 0 0 [.ref c] F (LR (LK G c Y B) c bv F (.int (nI (prs Y.1.J Y.1.cap Y.1.w)))) := by
  obtain ⟨X, h, hI, hC, hz⟩ := hK
  have q := X8_crossings_ok hC hI.1
  rw [h.1] at q
  exact Y_any h hI hz q
theorem Y_demand (hK : LK G c Y B bv F) : AC G mX8_demand 11 0 0 [.ref c] F (LR (LK G c Y B) c bv F (.int (nI (dem Y.1.J)))) := by
  obtain ⟨X, h, hI, hC, hz⟩ := hK
  have q := X8_demand_ok hC
  rw [h.1] at q
  exact Y_any h hI hz q
theorem Y_supply (hK : LK G c Y B bv F) : AC G mX8_supply 11 0 0 [.ref c] F (LR (LK G c Y B) c bv F (.int (nI (sup Y.1.J Y.1.cap)))) := by
  obtain ⟨X, h, hI, hC, hz⟩ := hK
  have q := X8_supply_ok hC hI.1
  rw [h.1] at q
  exact Y_any h hI hz q
theorem Y_beatsUntilEmpty (hK : LK G c Y B bv F) : AC G mX8_beatsUntilEmpty 11 0 0 [.ref c] F (LR (LK G c Y B) c bv F (.int (nI (btq Y.1)))) := by
  obtain ⟨X, h, hI, hC, hz⟩ := hK
  have q := X8_beatsUntilEmpty_ok hC hI.1
  rw [h.1] at q
  exact Y_any h hI hz q
theorem Y_crossingsByMerging (hK : LK G c Y B bv F) (ha : gN G ≤ c) : AC G mX8_crossingsByMerging 11 0 0 [.ref c] F (LR (LK G c Y B) c bv F (.int (nI (prs Y.1.J Y.1.cap Y.1.w)))) := by
  obtain ⟨X, h, hI, hC, hz⟩ := hK
  have q := X8_crossingsByMerging_ok hC ha hI.1
  rw [h.1] at q
  exact Y_any h hI hz q
theorem Y_isConsistent (hK : LK G c Y B bv F) (ha : gN G ≤ c) (hB : B + 41 ≤ 2 ^ 21) : AC G mX8_isConsistent 11 0 0 [.ref c] F (LR (LK G c Y B) c bv F (.int 1)) := by
  obtain ⟨X, h, hI, hC, hz⟩ := hK
  exact Y_any h hI hz (X8_isConsistent_ok hC ha hI.1 hB)
theorem Y_undoCount (hK : LK G c Y B bv F) : AC G mX8_undoCount 11 0 0 [.ref c] F (LR (LK G c Y B) c bv F (.int (nI Y.2.2.length))) := by
  obtain ⟨X, h, hI, hC, hz⟩ := hK
  have q := X8_undoCount_ok hC
  rw [h.2.2.1] at q
  exact Y_any h hI hz q
theorem Y_save (hK : LK G c Y B bv F) (ha : gN G ≤ c) : AC G mX8_save 11 0 0 [.ref c] F (LR (LK G c (Y.1, some Y.1, Y.2.2) B) c bv F (.int (nI Y.1.J.length))) := by
  obtain ⟨X, h, hI, hC, hz⟩ := hK
  have q := X8_save_ok hC ha
  rw [h.1] at q
  exact Y_any (X := svX X) (Y := (Y.1, some Y.1, Y.2.2)) ⟨h.1, congrArg some h.1, h.2.2⟩ hI.sav hz q
theorem Y_trim (hK : LK G c Y B bv F) (ha : gN G ≤ c) : AC G mX8_trim 11 0 0 [.ref c] F (LR (LK G c (chY Y (aTrm Y.1) 0) B) c bv F (.int (nI (trm Y.1.cap Y.1.w 100 Y.1.J).1))) := by
  have hq := hK.q
  obtain ⟨X, h, hI, hC, hz⟩ := hK
  have q := X8_trim_ok hC ha hI.1
  rw [h.1] at q
  exact Y_any (chY_x h _ 0) (hI.ch (fun _ => hq.trim) (Nat.le_refl _) hI.1.1.2.2.2.2.2.2.2) hz q
theorem W_position (hK : LK G c Y B bv F) {j : Nat} (hj : j < Y.1.J.length) : AC G mL_position 12 1 6 [.ref c, .int (nI j)] F (LR (LK G c Y B) c bv F (.int (nI (jp Y.1.J j)))) := by
  have hq := hK.q
  have b1 := hq.2.2.1
  have b2 := hq.2.2.2.1
  have b3 := hq.2.2.2.2.2
  obtain ⟨X, h, hI, hC, hz⟩ := hK
  have q := L_position_ok hC (nI j)
  rw [h.1, if_pos (hasB_of (by omega) hj), cl_nI (by omega), rn_0 rfl] at q
  exact Y_any h hI hz q
theorem W_opening (hK : LK G c Y B bv F) {j : Nat} (hj : j < Y.1.J.length) : AC G mL_opening 12 1 6 [.ref c, .int (nI j)] F (LR (LK G c Y B) c bv F (.int (nI (jo Y.1.J j)))) := by
  have hq := hK.q
  have b1 := hq.2.2.1
  have b2 := hq.2.2.2.1
  have b3 := hq.2.2.2.2.2
  obtain ⟨X, h, hI, hC, hz⟩ := hK
  have q := L_opening_ok hC (nI j)
  rw [h.1, if_pos (hasB_of (by omega) hj), cl_nI (by omega), rn_0 rfl] at q
  exact Y_any h hI hz q
theorem W_height (hK : LK G c Y B bv F) {j : Nat} (hj : j < Y.1.J.length) : AC G mL_height 12 1 6 [.ref c, .int (nI j)] F (LR (LK G c Y B) c bv F (.int (nI (hgt Y.1.cap (dem Y.1.J) (jo Y.1.J j))))) := by
  have hq := hK.q
  have b1 := hq.2.2.1
  have b2 := hq.2.2.2.1
  have b3 := hq.2.2.2.2.2
  obtain ⟨X, h, hI, hC, hz⟩ := hK
  have q := L_height_ok hC (nI j) hI.1
  rw [h.1, if_pos (hasB_of (by omega) hj), cl_nI (by omega), rn_0 rfl] at q
  exact Y_any h hI hz q
theorem W_landing (hK : LK G c Y B bv F) {j : Nat} (hj : j < Y.1.J.length) : AC G mL_landing 12 1 6 [.ref c, .int (nI j)] F (LR (LK G c Y B) c bv F (.int (lan Y.1.J Y.1.cap Y.1.w (dem Y.1.J) j))) := by
  have hq := hK.q
  have b1 := hq.2.2.1
  have b2 := hq.2.2.2.1
  have b3 := hq.2.2.2.2.2
  obtain ⟨X, h, hI, hC, hz⟩ := hK
  have q := L_landing_ok hC (nI j) hI.1
  rw [h.1, if_pos (hasB_of (by omega) hj), cl_nI (by omega), rn_0 rfl] at q
  exact Y_any h hI hz q
theorem W_isWild (hK : LK G c Y B bv F) {j : Nat} (hj : j < Y.1.J.length) : AC G mL_isWild 12 1 6 [.ref c, .int (nI j)] F (LR (LK G c Y B) c bv F (.int (bI (wld Y.1.J Y.1.cap Y.1.w j)))) := by
  have hq := hK.q
  have b1 := hq.2.2.1
  have b2 := hq.2.2.2.1
  have b3 := hq.2.2.2.2.2
  obtain ⟨X, h, hI, hC, hz⟩ := hK
  have q := L_isWild_ok hC (nI j) hI.1
  rw [h.1, if_pos (hasB_of (by omega) hj), cl_nI (by omega), rn_0 rfl] at q
  exact Y_any h hI hz q
theorem W_figuresUsing (hK : LK G c Y B bv F) {j : Nat} (hj : j < Y.1.J.length) : AC G mL_figuresUsing 12 1 6 [.ref c, .int (nI j)] F (LR (LK G c Y B) c bv F (.int (nI (cntB (fun i => fus (fg Y.1.Fg i) j) Y.1.Fg.length)))) := by
  have hq := hK.q
  have b1 := hq.2.2.1
  have b2 := hq.2.2.2.1
  have b3 := hq.2.2.2.2.2
  obtain ⟨X, h, hI, hC, hz⟩ := hK
  have q := L_figuresUsing_ok hC (nI j) hI.1
  rw [h.1, if_pos (hasB_of (by omega) hj), cl_nI (by omega), rn_0 rfl] at q
  exact Y_any h hI hz q
theorem W_jetByPosition (hK : LK G c Y B bv F) {j : Nat} (hj : j < Y.1.J.length) : AC G mL_jetByPosition 12 1 6 [.ref c, .int (nI j)] F (LR (LK G c Y B) c bv F (.int (nI (jbr Y.1.J j)))) := by
  have hq := hK.q
  have b1 := hq.2.2.1
  have b2 := hq.2.2.2.1
  have b3 := hq.2.2.2.2.2
  obtain ⟨X, h, hI, hC, hz⟩ := hK
  have q := L_jetByPosition_ok hC (nI j) hI.1
  rw [h.1, if_pos (jbr_ok hq.2.1 b1 hj).1, rn_0 rfl] at q
  exact Y_any h hI hz q
theorem W_highestJet (hK : LK G c Y B bv F) (h0 : 0 < Y.1.J.length) : AC G mL_highestJet 12 1 6 [.ref c] F (LR (LK G c Y B) c bv F (.int (nI (hghst Y.1.J Y.1.cap)))) := by
  have hq := hK.q
  have b1 := hq.2.2.1
  have b2 := hq.2.2.2.1
  have b3 := hq.2.2.2.2.2
  obtain ⟨X, h, hI, hC, hz⟩ := hK
  have q := L_highestJet_ok hC hI.1
  rw [h.1, if_neg (by omega), rn_0 rfl] at q
  exact Y_any h hI hz q
theorem W_nearestLanding (hK : LK G c Y B bv F) (h0 : 0 < Y.1.J.length) (x : Int32) : AC G mL_nearestLanding 12 1 6 [.ref c, .int x] F (LR (LK G c Y B) c bv F (.int (nI (nrst Y.1.J Y.1.cap Y.1.w x)))) := by
  have hq := hK.q
  have b1 := hq.2.2.1
  have b2 := hq.2.2.2.1
  have b3 := hq.2.2.2.2.2
  obtain ⟨X, h, hI, hC, hz⟩ := hK
  have q := L_nearestLanding_ok hC x hI.1
  rw [h.1, if_neg (by omega), rn_0 rfl] at q
  exact Y_any h hI hz q
theorem W_stepCount (hK : LK G c Y B bv F) {i : Nat} (hi : i < Y.1.Fg.length) : AC G mL_stepCount 12 1 6 [.ref c, .int (nI i)] F (LR (LK G c Y B) c bv F (.int (nI (fg Y.1.Fg i).length))) := by
  have hq := hK.q
  have b1 := hq.2.2.1
  have b2 := hq.2.2.2.1
  have b3 := hq.2.2.2.2.2
  obtain ⟨X, h, hI, hC, hz⟩ := hK
  have q := L_stepCount_ok hC (nI i)
  rw [h.1, if_pos (hasB_of (by omega) hi), cl_nI (by omega), rn_0 rfl] at q
  exact Y_any h hI hz q
theorem W_figureLength (hK : LK G c Y B bv F) {i : Nat} (hi : i < Y.1.Fg.length) : AC G mL_figureLength 12 1 6 [.ref c, .int (nI i)] F (LR (LK G c Y B) c bv F (.int (nI (fln (fg Y.1.Fg i))))) := by
  have hq := hK.q
  have b1 := hq.2.2.1
  have b2 := hq.2.2.2.1
  have b3 := hq.2.2.2.2.2
  obtain ⟨X, h, hI, hC, hz⟩ := hK
  have q := L_figureLength_ok hC (nI i) hI.1
  rw [h.1, if_pos (hasB_of (by omega) hi), cl_nI (by omega), rn_0 rfl] at q
  exact Y_any h hI hz q
theorem W_stepDelay (hK : LK G c Y B bv F) {i : Nat} (hi : i < Y.1.Fg.length) {k : Nat} (hk : k < (fg Y.1.Fg i).length) : AC G mL_stepDelay 12 1 6 [.ref c, .int (nI i), .int (nI k)] F (LR (LK G c Y B) c bv F (.int (nI (g3 (fg Y.1.Fg i) k).1))) := by
  have hq := hK.q
  have b1 := hq.2.2.1
  have b2 := hq.2.2.2.1
  have b3 := hq.2.2.2.2.2
  obtain ⟨X, h, hI, hC, hz⟩ := hK
  have q := L_stepDelay_ok hC (nI i) (nI k)
  rw [h.1, if_pos (hsB_of hi b2 hk (hq.2.2.2.2.1 i hi)), cl_nI (show i < 2 ^ 31 by omega), cl_nI (show k < 2 ^ 31 by have := hq.2.2.2.2.1 i hi; omega), rn_0 rfl] at q
  exact Y_any h hI hz q
theorem W_stepJet (hK : LK G c Y B bv F) {i : Nat} (hi : i < Y.1.Fg.length) {k : Nat} (hk : k < (fg Y.1.Fg i).length) : AC G mL_stepJet 12 1 6 [.ref c, .int (nI i), .int (nI k)] F (LR (LK G c Y B) c bv F (.int (nI (g3 (fg Y.1.Fg i) k).2.1))) := by
  have hq := hK.q
  have b1 := hq.2.2.1
  have b2 := hq.2.2.2.1
  have b3 := hq.2.2.2.2.2
  obtain ⟨X, h, hI, hC, hz⟩ := hK
  have q := L_stepJet_ok hC (nI i) (nI k)
  rw [h.1, if_pos (hsB_of hi b2 hk (hq.2.2.2.2.1 i hi)), cl_nI (show i < 2 ^ 31 by omega), cl_nI (show k < 2 ^ 31 by have := hq.2.2.2.2.1 i hi; omega), rn_0 rfl] at q
  exact Y_any h hI hz q
theorem W_stepOpening (hK : LK G c Y B bv F) {i : Nat} (hi : i < Y.1.Fg.length) {k : Nat} (hk : k < (fg Y.1.Fg i).length) : AC G mL_stepOpening 12 1 6 [.ref c, .int (nI i), .int (nI k)] F (LR (LK G c Y B) c bv F (.int (nI (g3 (fg Y.1.Fg i) k).2.2))) := by
  have hq := hK.q
  have b1 := hq.2.2.1
  have b2 := hq.2.2.2.1
  have b3 := hq.2.2.2.2.2
  obtain ⟨X, h, hI, hC, hz⟩ := hK
  have q := L_stepOpening_ok hC (nI i) (nI k)
  rw [h.1, if_pos (hsB_of hi b2 hk (hq.2.2.2.2.1 i hi)), cl_nI (show i < 2 ^ 31 by omega), cl_nI (show k < 2 ^ 31 by have := hq.2.2.2.2.1 i hi; omega), rn_0 rfl] at q
  exact Y_any h hI hz q
theorem W_stepJet_no (hK : LK G c Y B bv F) {i : Nat} (hi : i < Y.1.Fg.length) : AC G mL_stepJet 12 1 6 [.ref c, .int (nI i), .int (nI (fg Y.1.Fg i).length)] F (LR (LK G c Y B) c bv F (.int (-7700))) := by
  have hq := hK.q
  have b1 := hq.2.2.1
  have b2 := hq.2.2.2.1
  have b3 := hq.2.2.2.2.2
  obtain ⟨X, h, hI, hC, hz⟩ := hK
  have q := L_stepJet_ok hC (nI i) (nI (fg Y.1.Fg i).length)
  rw [h.1, if_neg (by rw [hsB_no hi b2 (hq.2.2.2.2.1 i hi)]; decide), show ∀ z, rn [-7700] 1 z = -7700 from fun z => rfl] at q
  exact Y_any h hI hz q
theorem W_entryFigure (hK : LK G c Y B bv F) {e : Nat} (he : e < Y.1.E.length) : AC G mL_entryFigure 12 1 6 [.ref c, .int (nI e)] F (LR (LK G c Y B) c bv F (.int (nI (en Y.1.E e).1))) := by
  have hq := hK.q
  have b1 := hq.2.2.1
  have b2 := hq.2.2.2.1
  have b3 := hq.2.2.2.2.2
  obtain ⟨X, h, hI, hC, hz⟩ := hK
  have q := L_entryFigure_ok hC (nI e)
  rw [h.1, if_pos (hasB_of (by omega) he), cl_nI (by omega), rn_0 rfl] at q
  exact Y_any h hI hz q
theorem W_entryStart (hK : LK G c Y B bv F) {e : Nat} (he : e < Y.1.E.length) : AC G mL_entryStart 12 1 6 [.ref c, .int (nI e)] F (LR (LK G c Y B) c bv F (.int (nI (en Y.1.E e).2))) := by
  have hq := hK.q
  have b1 := hq.2.2.1
  have b2 := hq.2.2.2.1
  have b3 := hq.2.2.2.2.2
  obtain ⟨X, h, hI, hC, hz⟩ := hK
  have q := L_entryStart_ok hC (nI e)
  rw [h.1, if_pos (hasB_of (by omega) he), cl_nI (by omega), rn_0 rfl] at q
  exact Y_any h hI hz q
theorem W_demandAfter (hK : LK G c Y B bv F) (ha : gN G ≤ c) (hB : B + 40 ≤ 2 ^ 21) {n : Nat} (hn : n ≤ 40) : AC G mL_demandAfter 12 1 6 [.ref c, .int (nI n)] F (LR (LK G c Y B) c bv F (.int (nI (dem (nxN Y.1 n).J)))) := by
  have hq := hK.q
  have b1 := hq.2.2.1
  have b2 := hq.2.2.2.1
  have b3 := hq.2.2.2.2.2
  obtain ⟨X, h, hI, hC, hz⟩ := hK
  have q := L_demandAfter_ok hC (nI n) ha hI.1 hB
  rw [h.1, if_pos (inB_of hn), cl_nI (by omega), rn_0 rfl] at q
  exact Y_any h hI hz q
theorem W_demandAfterBySteps (hK : LK G c Y B bv F) {n : Nat} (hn : n ≤ 40) : AC G mL_demandAfterBySteps 12 1 6 [.ref c, .int (nI n)] F (LR (LK G c Y B) c bv F (.int (nI (dem (nxN Y.1 n).J)))) := by
  have hq := hK.q
  have b1 := hq.2.2.1
  have b2 := hq.2.2.2.1
  have b3 := hq.2.2.2.2.2
  obtain ⟨X, h, hI, hC, hz⟩ := hK
  have q := L_demandAfterBySteps_ok hC (nI n) hI.1
  rw [h.1, if_pos (inB_of hn), cl_nI (by omega), rn_0 rfl] at q
  exact Y_any h hI hz q
theorem W_firstOverload (hK : LK G c Y B bv F) (ha : gN G ≤ c) (hB : B + 40 ≤ 2 ^ 21) {n : Nat} (hn : n ≤ 40) : AC G mL_firstOverload 12 2 12 [.ref c, .int (nI n)] F (LR (LK G c Y B) c bv F (.int (ovl Y.1 n))) := by
  obtain ⟨X, h, hI, hC, hz⟩ := hK
  have q := L_firstOverload_ok hC (nI n) ha hI.1 hB
  rw [h.1, if_pos (inB_of hn), cl_nI (by omega)] at q
  have e : rn [-7800, -7500] (if (fov Y.1 n).isSome = true then 0 else 2) (nI ((fov Y.1 n).getD 0 + 1)) = ovl Y.1 n := by
    unfold ovl
    cases fov Y.1 n with
    | none => rfl
    | some k => rfl
  rw [e] at q
  exact Y_any h hI hz q
theorem W_meanOpening (hK : LK G c Y B bv F) (h0 : 0 < Y.1.J.length) : AC G mL_meanOpening 12 1 6 [.ref c] F (LR (LK G c Y B) c bv F (.double (FP.ddiv (FP.i2d (nI (dem Y.1.J))) (FP.i2d (nI Y.1.J.length))))) := by
  have hq := hK.q
  have b1 := hq.2.2.1
  have b2 := hq.2.2.2.1
  have b3 := hq.2.2.2.2.2
  obtain ⟨X, h, hI, hC, hz⟩ := hK
  have q := L_meanOpening_ok hC hI.1
  rw [h.1, if_neg (show ¬ Y.1.J.length = 0 by omega), if_pos rfl] at q
  exact Y_any h hI hz q
theorem W_meanOpening_no (hK : LK G c Y B bv F) (h0 : Y.1.J.length = 0) : AC G mL_meanOpening 12 1 6 [.ref c] F (LR (LK G c Y B) c bv F (.double 13888230437601411072)) := by
  have hq := hK.q
  have b1 := hq.2.2.1
  have b2 := hq.2.2.2.1
  have b3 := hq.2.2.2.2.2
  obtain ⟨X, h, hI, hC, hz⟩ := hK
  have q := L_meanOpening_ok hC hI.1
  rw [h.1, if_pos h0, if_neg (by decide)] at q
  exact Y_any h hI hz q
theorem W_supplyFraction (hK : LK G c Y B bv F) (h0 : ¬ dem Y.1.J = 0) : AC G mL_supplyFraction 12 1 6 [.ref c] F (LR (LK G c Y B) c bv F (.float (FP.fdiv (FP.i2f (nI (sup Y.1.J Y.1.cap))) (FP.i2f (nI (dem Y.1.J)))))) := by
  have hq := hK.q
  have b1 := hq.2.2.1
  have b2 := hq.2.2.2.1
  have b3 := hq.2.2.2.2.2
  obtain ⟨X, h, hI, hC, hz⟩ := hK
  have q := L_supplyFraction_ok hC hI.1
  rw [h.1, if_neg h0, if_pos rfl] at q
  exact Y_any h hI hz q
theorem W_supplyFraction_no (hK : LK G c Y B bv F) (h0 : dem Y.1.J = 0) : AC G mL_supplyFraction 12 1 6 [.ref c] F (LR (LK G c Y B) c bv F (.float 3320266752)) := by
  have hq := hK.q
  have b1 := hq.2.2.1
  have b2 := hq.2.2.2.1
  have b3 := hq.2.2.2.2.2
  obtain ⟨X, h, hI, hC, hz⟩ := hK
  have q := L_supplyFraction_ok hC hI.1
  rw [h.1, if_pos h0, if_neg (by decide)] at q
  exact Y_any h hI hz q
theorem W_writeFigure (hK : LK G c Y B bv F) (ha : gN G ≤ c) {i : Nat} (hi : i < Y.1.Fg.length) : AC G mL_writeFigure 12 50 6964 [.ref c, .int (nI i)] F (LR (LKo G c Y B (wrF (fg Y.1.Fg i) (fg Y.1.Fg i).length)) c bv F (.int (nI (wrF (fg Y.1.Fg i) (fg Y.1.Fg i).length).length))) := by
  have b2 := hK.q.2.2.2.1
  obtain ⟨X, h, hI, hC, hz⟩ := hK
  have q := L_writeFigure_ok hC (nI i) ha hz hI.1
  rw [h.1, if_pos (hasB_of (by omega) hi), if_pos (hasB_of (by omega) hi), cl_nI (by omega), rn_0 rfl] at q
  have w := LR.xo (G := G) (c := c) (Y := Y) (bv := bv) (v := .int (nI (wrF (fg Y.1.Fg i) (fg Y.1.Fg i).length).length)) (X' := wrX X i) hz h (hI.wr i (by rw [h.1]; exact hi))
  have e : (wrX X i).ou = wrF (fg Y.1.Fg i) (fg Y.1.Fg i).length := by rw [← h.1]; rfl
  rw [e] at w
  exact q.imp w
theorem W_outputCharacter (hK : LKo G c Y B T bv F) {k : Nat} (hk : k < T.length) : AC G mL_outputCharacter 12 1 6 [.ref c, .int (nI k)] F (LR (LKo G c Y B T) c bv F (.int (T.getD k 0))) := by
  obtain ⟨X, h, hI, hC, hz, rfl⟩ := hK
  have b := hI.2.2.2.2.2.1
  have q := L_outputCharacter_ok hC (nI k) hI
  rw [if_pos (hasB_of (by omega) hk), cl_nI (by omega), rn_0 rfl] at q
  exact q.imp (LR.xo hz h hI)
theorem W_feed (hK : LKt G c Y B tx bv F) (ha : gN G ≤ c) (hl : tx.length < 60) {k : Nat} (hk : k < 128) : AC G mL_feed 12 1 6 [.ref c, .int (nI k)] F (LR (LKt G c Y B (tx ++ [nI k])) c bv F (.int (nI (tx.length + 1)))) := by
  obtain ⟨X, h, hI, hC, hz⟩ := hK
  have q := L_feed_ok hC (nI k) ha (nar_c k hk).2
  have e := h.2.2.2
  rw [e, if_neg (by omega), rn_0 rfl] at q
  refine Y_any ?_ (hI.fd (nI k) ?_) hz q
  · unfold fdX
    rw [if_neg (by rw [e]; omega)]
    exact ⟨h.1, h.2.1, h.2.2.1, by show X.tx ++ [nI k] = _; rw [e]⟩
  · have := (nar_c k hk).1
    rw [← this]
    exact ch_lt _
theorem W_undo (hK : LK G c Y B bv F) (ha : gN G ≤ c) (h0 : 0 < Y.2.2.length) : AC G mL_undo 12 1 6 [.ref c] F (LR (LK G c (hget Y.2.2 (Y.2.2.length - 1), Y.2.1, Y.2.2.take (Y.2.2.length - 1)) B) c bv F (.int (nI (Y.2.2.length - 1)))) := by
  obtain ⟨X, h, hI, hC, hz⟩ := hK
  have q := L_undo_ok hC ha
  have e := h.2.2.1
  rw [e, if_neg (by omega), rn_0 rfl] at q
  refine Y_any ?_ hI.un hz q
  unfold unX
  rw [if_neg (by rw [e]; omega)]
  exact ⟨by show hget X.hs _ = _; rw [e], h.2.1, by show X.hs.take _ = _; rw [e], h.2.2.2⟩
theorem W_undo_no (hK : LK G c Y B bv F) (ha : gN G ≤ c) (h0 : Y.2.2.length = 0) : AC G mL_undo 12 1 6 [.ref c] F (LR (LK G c Y B) c bv F (.int (-7900))) := by
  obtain ⟨X, h, hI, hC, hz⟩ := hK
  have q := L_undo_ok hC ha
  have e := h.2.2.1
  rw [e, if_pos h0] at q
  refine Y_any ?_ hI.un hz q
  unfold unX
  rw [if_pos (by rw [e]; exact h0)]
  exact h
theorem W_restore (hK : LK G c Y B bv F) (ha : gN G ≤ c) {τ : Sg} (h0 : Y.2.1 = some τ) : AC G mL_restore 12 1 6 [.ref c] F (LR (LK G c (τ, some τ, []) B) c bv F (.int (nI τ.J.length))) := by
  obtain ⟨X, h, hI, hC, hz⟩ := hK
  have q := L_restore_ok hC ha
  have e := h.2.1.trans h0
  rw [e] at q
  refine Y_any ?_ hI.rest hz q
  unfold reX
  rw [e]
  exact ⟨rfl, rfl, rfl, h.2.2.2⟩
theorem W_addJet (hK : LK G c Y B bv F) (ha : gN G ≤ c) (x : Int32) : AC G mL_addJet 12 1 6 [.ref c, .int x] F (LR (LK G c (chY Y (aJet Y.1 x) (pAdd Y.1.J x - 1)) (B)) c bv F (.int (rn [-7800, -7600, -7900] (pAdd Y.1.J x - 1) (nI Y.1.J.length)))) := by
  have hq := hK.q
  obtain ⟨X, h, hI, hC, hz⟩ := hK
  have q := L_addJet_ok hC x ha hI.1
  rw [h.1] at q
  exact Y_any (chY_x h _ _) (hI.ch (fun z => (hq.jet (by have := pAdd_v (J := Y.1.J) (x := x); omega)).1) (Nat.le_refl _) hI.1.1.2.2.2.2.2.2.2) hz q
theorem W_removeJet (hK : LK G c Y B bv F) (ha : gN G ≤ c) (x : Int32) : AC G mL_removeJet 12 1 6 [.ref c, .int x] F (LR (LK G c (chY Y (aRmJ Y.1 x) (if hasB Y.1.J.length x = true then 0 else 1)) (B)) c bv F (.int (rn [-7700] (if hasB Y.1.J.length x = true then 0 else 1) (nI (sumN (rmC (cl x) Y.1.Fg) Y.1.Fg.length))))) := by
  have hq := hK.q
  obtain ⟨X, h, hI, hC, hz⟩ := hK
  have q := L_removeJet_ok hC x ha hI.1
  rw [h.1] at q
  exact Y_any (chY_x h _ _) (hI.ch (fun z => (hq.rmJ (by by_cases e : hasB Y.1.J.length x = true; exact e; rw [if_neg e] at z; cases z)).1) (Nat.le_refl _) hI.1.1.2.2.2.2.2.2.2) hz q
theorem W_setOpening (hK : LK G c Y B bv F) (ha : gN G ≤ c) (x y : Int32) : AC G mL_setOpening 12 1 6 [.ref c, .int x, .int y] F (LR (LK G c (chY Y (aOpn Y.1 x y) (pOpn Y.1.J.length x y)) (B)) c bv F (.int (rn [-7700, -7800] (pOpn Y.1.J.length x y) (nI (jo Y.1.J (cl x)))))) := by
  have hq := hK.q
  obtain ⟨X, h, hI, hC, hz⟩ := hK
  have q := L_setOpening_ok hC x y ha hI.1
  rw [h.1] at q
  exact Y_any (chY_x h _ _) (hI.ch (fun z => (hq.opn z).1) (Nat.le_refl _) hI.1.1.2.2.2.2.2.2.2) hz q
theorem W_setCapacity (hK : LK G c Y B bv F) (ha : gN G ≤ c) (x : Int32) : AC G mL_setCapacity 12 1 6 [.ref c, .int x] F (LR (LK G c (chY Y (aCap Y.1 x) (pCap x / 2)) (B)) c bv F (.int (rn [-7800] (pCap x / 2) (nI Y.1.cap)))) := by
  have hq := hK.q
  obtain ⟨X, h, hI, hC, hz⟩ := hK
  have q := L_setCapacity_ok hC x ha hI.1
  rw [h.1] at q
  exact Y_any (chY_x h _ _) (hI.ch (fun z => (hq.capq (by have := pCap_v (x := x); omega)).1) (Nat.le_refl _) hI.1.1.2.2.2.2.2.2.2) hz q
theorem W_setWind (hK : LK G c Y B bv F) (ha : gN G ≤ c) (x : Int32) : AC G mL_setWind 12 1 6 [.ref c, .int x] F (LR (LK G c (chY Y (aWnd Y.1 x) (pWnd x / 2)) (B)) c bv F (.int (rn [-7800] (pWnd x / 2) (Y.1.w)))) := by
  have hq := hK.q
  obtain ⟨X, h, hI, hC, hz⟩ := hK
  have q := L_setWind_ok hC x ha hI.1
  rw [h.1] at q
  exact Y_any (chY_x h _ _) (hI.ch (fun z => hq.wnd) (Nat.le_refl _) hI.1.1.2.2.2.2.2.2.2) hz q
theorem W_addFigure (hK : LK G c Y B bv F) (ha : gN G ≤ c) : AC G mL_addFigure 12 1 6 [.ref c] F (LR (LK G c (chY Y (aFig Y.1) (if Y.1.Fg.length < 5 then 0 else 1)) (B)) c bv F (.int (rn [-7900] (if Y.1.Fg.length < 5 then 0 else 1) (nI Y.1.Fg.length)))) := by
  have hq := hK.q
  obtain ⟨X, h, hI, hC, hz⟩ := hK
  have q := L_addFigure_ok hC ha hI.1
  rw [h.1] at q
  exact Y_any (chY_x h _ _) (hI.ch (fun z => hq.fig (by by_cases e : Y.1.Fg.length < 5; exact e; rw [if_neg e] at z; cases z)) (Nat.le_refl _) hI.1.1.2.2.2.2.2.2.2) hz q
theorem W_removeFigure (hK : LK G c Y B bv F) (ha : gN G ≤ c) (x : Int32) : AC G mL_removeFigure 12 1 6 [.ref c, .int x] F (LR (LK G c (chY Y (aRmF Y.1 x) (if pDrF Y.1 x = 4 then 2 else pDrF Y.1 x)) (B)) c bv F (.int (rn [-7700, -7900] (if pDrF Y.1 x = 4 then 2 else pDrF Y.1 x) (nI (fg Y.1.Fg (cl x)).length)))) := by
  have hq := hK.q
  obtain ⟨X, h, hI, hC, hz⟩ := hK
  have q := L_removeFigure_ok hC x ha hI.1
  rw [h.1] at q
  exact Y_any (chY_x h _ _) (hI.ch (fun z => (hq.rmF (by have := pDrF_v (σ := Y.1) (x := x); split at z <;> omega)).1) (Nat.le_refl _) hI.1.1.2.2.2.2.2.2.2) hz q
theorem W_addStep (hK : LK G c Y B bv F) (ha : gN G ≤ c) (x y z u : Int32) : AC G mL_addStep 12 1 6 [.ref c, .int x, .int y, .int z, .int u] F (LR (LK G c (chY Y (aStp Y.1 x y z u) (if pStp Y.1 x y z u = 4 then 3 else pStp Y.1 x y z u)) (B)) c bv F (.int (rn [-7700, -7800, -7900] (if pStp Y.1 x y z u = 4 then 3 else pStp Y.1 x y z u) (nI ((fg Y.1.Fg (cl x)).length + 1))))) := by
  have hq := hK.q
  obtain ⟨X, h, hI, hC, hz⟩ := hK
  have q := L_addStep_ok hC x y z u ha hI.1
  rw [h.1] at q
  exact Y_any (chY_x h _ _) (hI.ch (fun w => (hq.stp (by have := pStp_v (σ := Y.1) (x := x) (y := y) (z := z) (u := u); split at w <;> omega)).1) (Nat.le_refl _) hI.1.1.2.2.2.2.2.2.2) hz q
theorem W_removeStep (hK : LK G c Y B bv F) (ha : gN G ≤ c) (x y : Int32) : AC G mL_removeStep 12 1 6 [.ref c, .int x, .int y] F (LR (LK G c (chY Y (aRmS Y.1 x y) (if hsB Y.1.Fg x y = true then 0 else 1)) (B)) c bv F (.int (rn [-7700] (if hsB Y.1.Fg x y = true then 0 else 1) (nI ((fg Y.1.Fg (cl x)).length - 1))))) := by
  have hq := hK.q
  obtain ⟨X, h, hI, hC, hz⟩ := hK
  have q := L_removeStep_ok hC x y ha hI.1
  rw [h.1] at q
  exact Y_any (chY_x h _ _) (hI.ch (fun z => (hq.rmS (by by_cases e : hsB Y.1.Fg x y = true; exact e; rw [if_neg e] at z; cases z)).1) (Nat.le_refl _) hI.1.1.2.2.2.2.2.2.2) hz q
theorem W_play (hK : LK G c Y B bv F) (ha : gN G ≤ c) (x y : Int32) : AC G mL_play 12 1 6 [.ref c, .int x, .int y] F (LR (LK G c (chY Y (aPly Y.1 x y) (if pPly Y.1 x y = 4 then 3 else pPly Y.1 x y)) (B)) c bv F (.int (rn [-7700, -7800, -7900] (if pPly Y.1 x y = 4 then 3 else pPly Y.1 x y) (nI (Y.1.bt + cl y))))) := by
  have hq := hK.q
  obtain ⟨X, h, hI, hC, hz⟩ := hK
  have q := L_play_ok hC x y ha hI.1
  rw [h.1] at q
  exact Y_any (chY_x h _ _) (hI.ch (fun z => (hq.ply (by have := pPly_v (σ := Y.1) (x := x) (y := y); split at z <;> omega)).1) (Nat.le_refl _) hI.1.1.2.2.2.2.2.2.2) hz q
theorem W_cancel (hK : LK G c Y B bv F) (ha : gN G ≤ c) (x : Int32) : AC G mL_cancel 12 1 6 [.ref c, .int x] F (LR (LK G c (chY Y (aCan Y.1 x) (if hasB Y.1.E.length x = true then 0 else 1)) (B)) c bv F (.int (rn [-7700] (if hasB Y.1.E.length x = true then 0 else 1) (nI (en Y.1.E (cl x)).2)))) := by
  have hq := hK.q
  obtain ⟨X, h, hI, hC, hz⟩ := hK
  have q := L_cancel_ok hC x ha hI.1
  rw [h.1] at q
  exact Y_any (chY_x h _ _) (hI.ch (fun z => (hq.can (by by_cases e : hasB Y.1.E.length x = true; exact e; rw [if_neg e] at z; cases z)).1) (Nat.le_refl _) hI.1.1.2.2.2.2.2.2.2) hz q
theorem W_pass (hK : LK G c Y B bv F) (ha : gN G ≤ c) (hB : B + 40 ≤ 2 ^ 21) (x : Int32) : AC G mL_pass 12 1 6 [.ref c, .int x] F (LR (LK G c (chY Y (nxN Y.1 (cl x)) (pPas x / 2)) (B + 40)) c bv F (.int (rn [-7800] (pPas x / 2) (nI (nxF Y.1 (cl x)))))) := by
  have hq := hK.q
  obtain ⟨X, h, hI, hC, hz⟩ := hK
  have q := L_pass_ok hC x ha hI.1 hB
  rw [h.1] at q
  exact Y_any (chY_x h _ _) (hI.ch (fun z => SQ.mono (hq.nxN (cl x) (by have := pPas_0 (x := x) (by have := pPas_v (x := x); omega); omega)) (by have := pPas_0 (x := x) (by have := pPas_v (x := x); omega); omega) hB) (by omega) hB) hz q
/-- the text is executed -/
theorem W_execute (hK : LKt G c Y B tx bv F) (ha : gN G ≤ c) (hB : B + 2480 ≤ 2 ^ 21) : AC G mL_execute 12 1 6 [.ref c] F (LE (fun v bv' F' => ∃ r : Int32, v = .int r ∧ ((r ≤ -7400 ∧ LK G c Y (B + 2480) bv' F') ∨ ((∃ n, n ≤ 61 ∧ r = nI n) ∧ ∃ σ, (WI Y.1 → WI σ) ∧ LK G c (σ, Y.2.1, pushH Y.2.2 Y.1) (B + 2480) bv' F'))) c bv F) := by
  obtain ⟨X, h, hI, hC, hz⟩ := hK
  have q := L_execute_ok hC ha hI.1 hB
  have hE := hI.ex hB
  refine q.imp (fun r F' w => ?_)
  obtain ⟨e, bv', hC', hx⟩ := w
  refine ⟨_, bv', e, ⟨_, rfl, ?_⟩, hx⟩
  have z' : c + 131 ≤ F'.1 := Nat.le_trans hz hx.1
  by_cases e1 : (exP X).1 = false
  · have e2 : exC X = 1 := by unfold exC; rw [if_pos e1]
    rw [e2]
    refine Or.inl ⟨show (-7800 : Int32) ≤ -7400 by decide, exX X, ?_, hE, hC', z'⟩
    unfold exX
    rw [if_pos e1]
    exact ⟨h.1, h.2.1, h.2.2.1, rfl⟩
  · cases e3 : fL X.sg (exP X).2.2 with
    | some k =>
      have e2 : exC X = 2 := by unfold exC; rw [if_neg e1, e3]; rfl
      rw [e2]
      refine Or.inl ⟨show (-7600 : Int32) ≤ -7400 by decide, exX X, ?_, hE, hC', z'⟩
      unfold exX
      rw [if_neg e1, e3]
      exact ⟨h.1, h.2.1, h.2.2.1, rfl⟩
    | none =>
      have e2 : exC X = 0 := by unfold exC; rw [if_neg e1, e3]; rfl
      rw [e2, rn_0 rfl]
      refine Or.inr ⟨⟨_, (psT_place (T := X.tx) 61 0 (Nat.zero_le _)).2, rfl⟩, dK X.sg (exP X).2.2 (exP X).2.2.length, fun hw => dK_w (by rw [h.1]; exact hw) _ (fun i hi => fnd_nb e3 i hi), exX X, ?_, hE, hC', z'⟩
      unfold exX
      rw [if_neg e1, e3]
      exact ⟨rfl, h.2.1, by show pushH X.hs X.sg = _; rw [h.1, h.2.2.1], rfl⟩
end

