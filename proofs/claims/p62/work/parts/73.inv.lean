/-! Pairs out of order: what a merge sort counts; ranks as a new order. -/
theorem sumN_cg {g h : Nat → Nat} : ∀ n, (∀ i, i < n → g i = h i) → sumN g n = sumN h n
  | 0, _ => rfl
  | n + 1, e => by
    simp only [sumN]
    rw [sumN_cg n (fun i hi => e i (by omega)), e n (by omega)]
theorem sumN_z : ∀ n, sumN (fun _ => 0) n = 0
  | 0 => rfl
  | n + 1 => by simp only [sumN]; rw [sumN_z n]
theorem sumN_one : ∀ n, sumN (fun _ => 1) n = n
  | 0 => rfl
  | n + 1 => by simp only [sumN]; rw [sumN_one n]
theorem sumN_add {g h : Nat → Nat} : ∀ n, sumN (fun i => g i + h i) n = sumN g n + sumN h n
  | 0 => rfl
  | n + 1 => by simp only [sumN]; rw [sumN_add n]; omega
theorem sumN_swap {t : Nat → Nat → Nat} {m : Nat} : ∀ n, sumN (fun j => sumN (fun a => t j a) m) n = sumN (fun a => sumN (fun j => t j a) n) m
  | 0 => by simp only [sumN]; exact (sumN_z m).symm
  | n + 1 => by
    simp only [sumN]
    rw [sumN_swap n, sumN_add]
theorem sumN_pt {h : Nat → Nat} {x : Nat} : ∀ n, sumN (fun a => if x = a then h a else 0) n = if x < n then h x else 0
  | 0 => rfl
  | n + 1 => by
    simp only [sumN]
    rw [sumN_pt n]
    by_cases e : x = n
    · subst e
      rw [if_neg (Nat.lt_irrefl _), if_pos rfl, if_pos (Nat.lt_succ_self _), Nat.zero_add]
    · rw [if_neg e, Nat.add_zero]
      by_cases h1 : x < n
      · rw [if_pos h1, if_pos (by omega)]
      · rw [if_neg h1, if_neg (by omega)]
theorem sumN_ite {P : Nat → Prop} [DecidablePred P] {c : Nat} : ∀ n, sumN (fun j => if P j then c else 0) n = c * sumN (fun j => if P j then 1 else 0) n
  | 0 => rfl
  | n + 1 => by
    simp only [sumN]
    rw [sumN_ite n, Nat.mul_add]
    by_cases e : P n
    · rw [if_pos e, if_pos e, Nat.mul_one]
    · rw [if_neg e, if_neg e, Nat.mul_zero]
theorem cntB_sum {P : Nat → Bool} : ∀ n, cntB P n = sumN (fun i => if P i = true then 1 else 0) n
  | 0 => rfl
  | n + 1 => by simp only [sumN, cntB]; rw [cntB_sum n]
theorem sumN_all1 {g : Nat → Nat} : ∀ n, (∀ a, a < n → g a ≤ 1) → sumN g n ≤ n ∧ (sumN g n = n → ∀ a, a < n → g a = 1)
  | 0, _ => ⟨Nat.le_refl _, fun _ a ha => absurd ha (Nat.not_lt_zero _)⟩
  | n + 1, h => by
    obtain ⟨h1, h2⟩ := sumN_all1 n (fun a ha => h a (by omega))
    have h3 := h n (by omega)
    simp only [sumN]
    refine ⟨by omega, fun e a ha => ?_⟩
    by_cases q : a = n
    · subst q; omega
    · exact h2 (by omega) a (by omega)
/-- r puts 0 .. n-1 in another order -/
def RO (r : Nat → Nat) (n : Nat) : Prop := (∀ j, j < n → r j < n) ∧ ∀ i j, i < n → j < n → r i = r j → i = j
theorem RO.one {r : Nat → Nat} {n : Nat} (h : RO r n) : ∀ a, a < n → sumN (fun j => if r j = a then 1 else 0) n = 1 := by
  have le1 : ∀ k a, k ≤ n → sumN (fun j => if r j = a then 1 else 0) k ≤ 1 := by
    intro k a
    induction k with
    | zero => intro _; exact Nat.zero_le _
    | succ k ih =>
      intro hk
      have := ih (by omega)
      simp only [sumN]
      by_cases e : r k = a
      · rw [if_pos e, sumN_cg (h := fun _ => 0) k (fun i hi => if_neg (fun q => by have := h.2 i k (by omega) (by omega) (q.trans e.symm); omega)), sumN_z]
        omega
      · rw [if_neg e]; omega
  have tot : sumN (fun a => sumN (fun j => if r j = a then 1 else 0) n) n = n := by
    rw [← sumN_swap (t := fun j a => if r j = a then 1 else 0) n]
    rw [sumN_cg (h := fun _ => 1) n (fun j hj => by rw [sumN_pt (h := fun _ => 1) (x := r j) n, if_pos (h.1 j hj)]), sumN_one]
  exact (sumN_all1 n (fun a _ => le1 n a (Nat.le_refl _))).2 tot
theorem RO.sum {r : Nat → Nat} {n : Nat} (h : RO r n) {g : Nat → Nat} : sumN (fun j => g (r j)) n = sumN g n := by
  rw [sumN_cg (h := fun j => sumN (fun a => if r j = a then g a else 0) n) n (fun j hj => by rw [sumN_pt (h := g) (x := r j) n, if_pos (h.1 j hj)])]
  rw [sumN_swap (t := fun j a => if r j = a then g a else 0) n]
  exact sumN_cg n (fun a ha => by rw [sumN_ite (P := fun j => r j = a), h.one a ha, Nat.mul_one])
theorem RO.hit {r : Nat → Nat} {n a : Nat} (h : RO r n) (ha : a < n) : ∃ j, j < n ∧ r j = a := by
  refine Decidable.byContradiction (fun q => ?_)
  have h1 := h.one a ha
  rw [sumN_cg (h := fun _ => 0) n (fun i hi => if_neg (fun e => q ⟨i, hi, e⟩)), sumN_z] at h1
  cases h1
theorem cntB_lt {P : Nat → Bool} {j : Nat} (hj : P j = false) : ∀ n, j < n → cntB P n < n
  | 0, h => absurd h (Nat.not_lt_zero _)
  | n + 1, h => by
    simp only [cntB]
    by_cases e : j = n
    · subst e
      have := cntB_le (P := P) j
      rw [hj, if_neg (by decide)]; omega
    · have := cntB_lt hj n (by omega)
      split <;> omega
theorem cntB_mono {P Q : Nat → Bool} (h : ∀ i, P i = true → Q i = true) : ∀ n, cntB P n ≤ cntB Q n
  | 0 => Nat.le_refl _
  | n + 1 => by
    have := cntB_mono h n
    simp only [cntB]
    by_cases e : P n = true
    · rw [if_pos e, if_pos (h n e)]; omega
    · rw [if_neg e]; split <;> omega
theorem cntB_smono {P Q : Nat → Bool} (h : ∀ i, P i = true → Q i = true) {j : Nat} (h1 : P j = false) (h2 : Q j = true) : ∀ n, j < n → cntB P n < cntB Q n
  | 0, q => absurd q (Nat.not_lt_zero _)
  | n + 1, q => by
    simp only [cntB]
    by_cases e : j = n
    · subst e
      have := cntB_mono h j
      rw [h1, h2, if_neg (by decide), if_pos rfl]; omega
    · have := cntB_smono h h1 h2 n (by omega)
      by_cases e : P n = true
      · rw [if_pos e, if_pos (h n e)]; omega
      · rw [if_neg e]; split <;> omega
theorem rnk_lt {J : List Jt} {i j : Nat} (hi : i < J.length) (h : jp J i < jp J j) : rnk J i < rnk J j :=
  cntB_smono (fun o q => decide_eq_true (Nat.lt_trans (of_decide_eq_true q) h)) (j := i) (decide_eq_false (Nat.lt_irrefl _)) (decide_eq_true h) J.length hi
theorem rnk_eq {J : List Jt} {i j : Nat} (h : jp J i = jp J j) : rnk J i = rnk J j := by unfold rnk; rw [h]
theorem rnk_iff {J : List Jt} {i j : Nat} (hi : i < J.length) (hj : j < J.length) : rnk J i < rnk J j ↔ jp J i < jp J j := by
  refine ⟨fun h => Decidable.byContradiction (fun q => ?_), rnk_lt hi⟩
  rcases Nat.lt_or_ge (jp J j) (jp J i) with e | e
  · have := rnk_lt hj e; omega
  · have := rnk_eq (J := J) (i := i) (j := j) (by omega); omega
theorem PD.ro {J : List Jt} (h : PD J) : RO (rnk J) J.length := by
  refine ⟨fun j hj => cntB_lt (j := j) (decide_eq_false (Nat.lt_irrefl _)) _ hj, fun i j hi hj e => h i j hi hj ?_⟩
  rcases Nat.lt_or_ge (jp J i) (jp J j) with q | q
  · have := rnk_lt hi q; omega
  · rcases Nat.lt_or_ge (jp J j) (jp J i) with q2 | q2
    · have := rnk_lt hj q2; omega
    · omega
/-! Lists of numbers. -/
def seg (f : Nat → Int32) : Nat → Nat → List Int32
  | _, 0 => []
  | a, k + 1 => f a :: seg f (a + 1) k
def cnx (x : Int32) : List Int32 → Nat
  | [] => 0
  | y :: l => (if y < x then 1 else 0) + cnx x l
def cra : List Int32 → List Int32 → Nat
  | [], _ => 0
  | x :: A, B => cnx x B + cra A B
def inv : List Int32 → Nat
  | [] => 0
  | x :: l => cnx x l + inv l
def SO : List Int32 → Prop
  | [] => True
  | x :: l => (∀ y, y ∈ l → x ≤ y) ∧ SO l
theorem seg_app {f : Nat → Int32} : ∀ k a m, seg f a (k + m) = seg f a k ++ seg f (a + k) m
  | 0, a, m => by rw [Nat.zero_add]; rfl
  | k + 1, a, m => by
    rw [show k + 1 + m = (k + m) + 1 by omega]
    simp only [seg, List.cons_append]
    rw [seg_app k (a + 1) m, show a + 1 + k = a + (k + 1) by omega]
theorem seg_cg {f g : Nat → Int32} : ∀ k a, (∀ i, a ≤ i → i < a + k → f i = g i) → seg f a k = seg g a k
  | 0, _, _ => rfl
  | k + 1, a, h => by
    simp only [seg]
    rw [h a (Nat.le_refl _) (by omega), seg_cg k (a + 1) (fun i h1 h2 => h i (by omega) (by omega))]
theorem seg_mem {f : Nat → Int32} {y : Int32} : ∀ k a, y ∈ seg f a k → ∃ i, a ≤ i ∧ i < a + k ∧ y = f i
  | 0, _, h => by cases h
  | k + 1, a, h => by
    rcases List.mem_cons.mp h with h | h
    · exact ⟨a, Nat.le_refl _, by omega, h⟩
    · obtain ⟨i, h1, h2, h3⟩ := seg_mem k (a + 1) h
      exact ⟨i, by omega, by omega, h3⟩
theorem seg_in {f : Nat → Int32} {i : Nat} : ∀ k a, a ≤ i → i < a + k → f i ∈ seg f a k
  | 0, a, h1, h2 => by omega
  | k + 1, a, h1, h2 => by
    by_cases e : i = a
    · subst e; exact List.mem_cons_self ..
    · exact List.mem_cons_of_mem _ (seg_in k (a + 1) (by omega) (by omega))
/-- in order from a on, before b -/
def SRT (f : Nat → Int32) (a b : Nat) : Prop := ∀ i j, a ≤ i → i < j → j < b → f i ≤ f j
theorem SRT.so {f : Nat → Int32} : ∀ k a, SRT f a (a + k) → SO (seg f a k)
  | 0, _, _ => trivial
  | k + 1, a, h => ⟨fun y hy => by
      obtain ⟨i, h1, h2, rfl⟩ := seg_mem k (a + 1) hy
      exact h a i (Nat.le_refl _) (by omega) (by omega), SRT.so k (a + 1) (fun i j h1 h2 h3 => h i j (by omega) h2 (by omega))⟩
theorem SO.srt {f : Nat → Int32} : ∀ k a, SO (seg f a k) → SRT f a (a + k)
  | 0, a, _ => fun i j h1 h2 h3 => by omega
  | k + 1, a, h => fun i j h1 h2 h3 => by
    by_cases e : i = a
    · subst e; exact h.1 _ (seg_in k (i + 1) (by omega) (by omega))
    · exact SO.srt k (a + 1) h.2 i j (by omega) h2 (by omega)
theorem cnx_app {x : Int32} {B : List Int32} : ∀ A, cnx x (A ++ B) = cnx x A + cnx x B
  | [] => by simp [cnx]
  | y :: A => by simp only [List.cons_append, cnx]; rw [cnx_app A]; omega
theorem cnx_perm {x : Int32} {A B : List Int32} (h : A.Perm B) : cnx x A = cnx x B := by
  induction h with
  | nil => rfl
  | cons y _ ih => simp only [cnx]; rw [ih]
  | swap y z l => simp only [cnx]; omega
  | trans _ _ h1 h2 => exact h1.trans h2
theorem cra_appL {A' B : List Int32} : ∀ A, cra (A ++ A') B = cra A B + cra A' B
  | [] => by simp [cra]
  | y :: A => by simp only [List.cons_append, cra]; rw [cra_appL A]; omega
theorem cra_appR {B B' : List Int32} : ∀ A, cra A (B ++ B') = cra A B + cra A B'
  | [] => rfl
  | y :: A => by simp only [cra]; rw [cra_appR A, cnx_app]; omega
theorem cra_permR {B B' : List Int32} (h : B.Perm B') : ∀ A, cra A B = cra A B'
  | [] => rfl
  | y :: A => by simp only [cra]; rw [cra_permR h A, cnx_perm h]
theorem cra_permL {A A' B : List Int32} (h : A.Perm A') : cra A B = cra A' B := by
  induction h with
  | nil => rfl
  | cons y _ ih => simp only [cra]; rw [ih]
  | swap y z l => simp only [cra]; omega
  | trans _ _ h1 h2 => exact h1.trans h2
theorem inv_app {B : List Int32} : ∀ A, inv (A ++ B) = inv A + inv B + cra A B
  | [] => by simp [inv, cra]
  | y :: A => by simp only [List.cons_append, inv, cra]; rw [inv_app A, cnx_app]; omega
theorem inv_mid {P M A B S : List Int32} (h : M.Perm (A ++ B)) (hM : inv M = 0) (hA : inv A = 0) (hB : inv B = 0) : inv (P ++ ((A ++ B) ++ S)) = inv (P ++ (M ++ S)) + cra A B := by
  rw [inv_app P, inv_app P, inv_app (A ++ B), inv_app M, inv_app A, hM, hA, hB, cra_permL h (B := S), cra_permR (h.append_right S) P]
  omega
theorem cnx_so {x : Int32} : ∀ l, (∀ y, y ∈ l → x ≤ y) → cnx x l = 0
  | [], _ => rfl
  | y :: l, h => by
    simp only [cnx]
    rw [if_neg (Int32.not_lt.mpr (h y (List.mem_cons_self ..))), cnx_so l (fun z hz => h z (List.mem_cons_of_mem _ hz))]
theorem cnx_all {x : Int32} : ∀ l : List Int32, (∀ y, y ∈ l → y < x) → cnx x l = l.length
  | [], _ => rfl
  | y :: l, h => by
    simp only [cnx]
    rw [if_pos (h y (List.mem_cons_self ..)), cnx_all l (fun z hz => h z (List.mem_cons_of_mem _ hz)), List.length_cons]
    omega
theorem SO.iv : ∀ {l : List Int32}, SO l → inv l = 0
  | [], _ => rfl
  | x :: l, h => by
    show cnx x l + inv l = 0
    rw [cnx_so l h.1, SO.iv h.2]
/-- how two rows become one: M, c of them passed over -/
def MGR : List Int32 → List Int32 → List Int32 → Nat → Prop
  | [], A, B, c => A = [] ∧ B = [] ∧ c = 0
  | z :: M, A, B, c => (∃ A', A = z :: A' ∧ (∀ y, B.head? = some y → z ≤ y) ∧ MGR M A' B c) ∨ ∃ B' c', B = z :: B' ∧ (∀ x, A.head? = some x → z < x) ∧ c = A.length + c' ∧ MGR M A B' c'
theorem SO.head {x : Int32} {l : List Int32} (h : SO l) (hx : ∀ y, l.head? = some y → x ≤ y) : ∀ y, y ∈ l → x ≤ y := by
  cases l with
  | nil => intro y hy; cases hy
  | cons z l =>
    intro y hy
    rcases List.mem_cons.mp hy with rfl | hy
    · exact hx _ rfl
    · exact Int32.le_trans (hx z rfl) (h.1 y hy)
theorem SO.headL {x : Int32} {l : List Int32} (h : SO l) (hx : ∀ y, l.head? = some y → x < y) : ∀ y, y ∈ l → x < y := by
  cases l with
  | nil => intro y hy; cases hy
  | cons z l =>
    intro y hy
    rcases List.mem_cons.mp hy with rfl | hy
    · exact hx _ rfl
    · exact Int32.lt_of_lt_of_le (hx z rfl) (h.1 y hy)
theorem cra_0 {y : Int32} {B : List Int32} : ∀ A : List Int32, (∀ x, x ∈ A → y < x) → cra A (y :: B) = A.length + cra A B
  | [], _ => rfl
  | x :: A, h => by
    simp only [cra, cnx, List.length_cons]
    rw [if_pos (h x (List.mem_cons_self ..)), cra_0 A (fun z hz => h z (List.mem_cons_of_mem _ hz))]
    omega
theorem MGR.ok : ∀ {M A B : List Int32} {c : Nat}, MGR M A B c → SO A → SO B → SO M ∧ M.Perm (A ++ B) ∧ c = cra A B
  | [], _, _, _, h, _, _ => by
    obtain ⟨rfl, rfl, rfl⟩ := h
    exact ⟨trivial, List.Perm.nil, rfl⟩
  | z :: M, A, B, c, h, hA, hB => by
    rcases h with ⟨A', rfl, hx, k⟩ | ⟨B', c', rfl, hy, rfl, k⟩
    · obtain ⟨i1, i2, i3⟩ := MGR.ok k hA.2 hB
      have hb := hB.head hx
      refine ⟨⟨fun y hy => ?_, i1⟩, i2.cons z, ?_⟩
      · rcases List.mem_append.mp (i2.mem_iff.mp hy) with q | q
        · exact hA.1 y q
        · exact hb y q
      · simp only [cra]
        rw [cnx_so B hb, i3, Nat.zero_add]
    · obtain ⟨i1, i2, i3⟩ := MGR.ok k hA hB.2
      have ha := hA.headL hy
      refine ⟨⟨fun x hx => ?_, i1⟩, (i2.cons z).trans List.perm_middle.symm, ?_⟩
      · rcases List.mem_append.mp (i2.mem_iff.mp hx) with q | q
        · exact Int32.le_of_lt (ha x q)
        · exact hB.1 x q
      · rw [cra_0 A ha, i3]
/-- the pairs out of order of a row, as a sum -/
theorem cra_one {f : Nat → Int32} {x : Int32} : ∀ n, cra (seg f 0 n) [x] = sumN (fun a => if x < f a then 1 else 0) n
  | 0 => rfl
  | n + 1 => by
    rw [seg_app n 0 1, cra_appL, cra_one n]
    simp only [sumN, seg, cra, cnx, Nat.zero_add, Nat.add_zero]
theorem inv_sum {f : Nat → Int32} : ∀ n, inv (seg f 0 n) = sumN (fun a => sumN (fun b => if a < b ∧ f b < f a then 1 else 0) n) n
  | 0 => rfl
  | n + 1 => by
    rw [seg_app n 0 1, inv_app, inv_sum n]
    simp only [seg, Nat.zero_add, sumN]
    rw [sumN_add, cra_one n, sumN_cg (g := fun i => if n < i ∧ f i < f n then 1 else 0) (h := fun _ => 0) n (fun i hi => if_neg (fun q => by omega)), sumN_z, if_neg (fun q => Nat.lt_irrefl _ q.1)]
    rw [sumN_cg (g := fun a => if a < n ∧ f n < f a then 1 else 0) (h := fun a => if f n < f a then 1 else 0) n (fun i hi => by simp [hi])]
    simp only [inv, cnx]
    omega
theorem prs_inv {J : List Jt} {cap : Nat} {w : Int32} {f : Nat → Int32} (h : PD J) (hf : ∀ j, j < J.length → f (rnk J j) = lan J cap w (dem J) j) : prs J cap w = inv (seg f 0 J.length) := by
  rw [inv_sum]
  unfold prs
  rw [sumN_cg (h := fun j => sumN (fun b => if rnk J j < b ∧ f b < f (rnk J j) then 1 else 0) J.length) J.length (fun j hj => ?_)]
  · exact h.ro.sum (g := fun a => sumN (fun b => if a < b ∧ f b < f a then 1 else 0) J.length)
  · rw [cntB_sum, ← h.ro.sum (g := fun b => if rnk J j < b ∧ f b < f (rnk J j) then 1 else 0)]
    refine sumN_cg _ (fun o ho => ?_)
    rw [hf j hj, hf o ho]
    unfold crs
    by_cases q1 : jp J j < jp J o
    · rw [decide_eq_true q1]
      by_cases q2 : lan J cap w (dem J) o < lan J cap w (dem J) j
      · rw [decide_eq_true q2, if_pos (show (true && true) = true from rfl), if_pos ⟨(rnk_iff hj ho).mpr q1, q2⟩]
      · rw [decide_eq_false q2, if_neg (show ¬ (true && false) = true by decide), if_neg (fun q => q2 q.2)]
    · rw [decide_eq_false q1, Bool.false_and, if_neg Bool.false_ne_true, if_neg (fun q => q1 ((rnk_iff hj ho).mp q.1))]

