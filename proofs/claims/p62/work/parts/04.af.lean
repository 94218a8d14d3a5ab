/-! A layer over the kit: a frame over a picture of the heap (AF), a method over such a picture (AC). G: launch, the state at the law's entry, the classes' numbers and slots, the array classes, the constants' addresses. A picture F: the next free address, and what is known of the cells, by their addresses. -/
abbrev AH : Type := Nat × (Nat → Option va_E)
abbrev AR : Type := Option Value ⊕ String
abbrev GA : Type := Launch × State × va_G × (Nat → ClassId) × (Nat → Nat)
abbrev gN (G : GA) : Nat := G.2.1.heap.size
abbrev gC (G : GA) (k : Nat) : ClassId := G.2.2.2.1 k
abbrev cls : List vw_C := [(RX2, TX2, 5), (RX3, TX3, 5), (RX4, TX4, 2), (RX6, TX6, 7), (RX7, TX7, 8), (RX8, TX8, 12), (RX2, TX2, 5), (RJ4, TJ4, 4), (RJ0, TJ0, 4)]
abbrev gtys (g : Nat → ClassId) : List (ClassId × FieldType) := [(g 0, .int), (g 1, .long), (g 2, .char), (g 3, .long), (g 4, .object RX7), (g 5, .byte)]
/-- an address of this run's own -/
abbrev gA (G : GA) : Nat → Prop := fun q => gN G ≤ q
/-- the constants' addresses: 0-4 the Problems by their ordinals, 5-13 the Commands, 14 COMMANDS, 15 and 16 the switch maps, 20-28 the Commands' patterns, 30-38 their bytes -/
abbrev gk (G : GA) (k : Nat) : Nat := G.2.2.2.2 k
def pats : List String := ["jet N", "open D=N", "pump N", "wind SD", "trim", "figure", "step D+N:D=N", "play D+N", "pass N"]
def pnm : List String := ["NONE", "INDEX", "ARGUMENT", "UNSUPPORTED", "STATE"]
def swc : List Int32 := [1, 2, 3, 4, 9, 5, 6, 7, 8]
/-- a text's j-th sign -/
def sby (tx : String) (j : Nat) : Int32 := nI (tx.toList.getD j ' ').toNat
/-- a String constant: its class, its bytes -/
def STR (G : GA) (a v : Nat) (tx : String) : Prop := va_O "java/lang/String" a (gA G) G.2.1 G.2.1.heap ∧ va_OF "java/lang/String" "coder" "B" (.int 0) a (gA G) G.2.1 G.2.1.heap ∧ va_OF "java/lang/String" "value" "[B" (.ref v) a (gA G) G.2.1 G.2.1.heap ∧ va_T .byte v tx.toList.length (fun j => .int (sby tx j)) (gA G) G.2.1 G.2.1.heap
def GX (G : GA) : Prop :=
  (∀ i, i < 5 → va_Z "FountainShow$Problem" (pnm.getD i "") "LFountainShow$Problem;" (.ref (gk G i)) (gA G) G.2.1 G.2.1.heap ∧ va_O "FountainShow$Problem" (gk G i) (gA G) G.2.1 G.2.1.heap ∧ va_OF "java/lang/Enum" "ordinal" "I" (.int (nI i)) (gk G i) (gA G) G.2.1 G.2.1.heap) ∧
  (∀ i j, i < 5 → j < 5 → gk G i = gk G j → i = j) ∧
  (va_Z "FountainShow$1" "$SwitchMap$FountainShow$Problem" "[I" (.ref (gk G 15)) (gA G) G.2.1 G.2.1.heap ∧ va_T .int (gk G 15) 5 (fun j => .int (nI j)) (gA G) G.2.1 G.2.1.heap) ∧
  (va_Z "FountainShow" "COMMANDS" "[LFountainShow$Command;" (.ref (gk G 14)) (gA G) G.2.1 G.2.1.heap ∧ va_T (.object "FountainShow$Command") (gk G 14) 9 (fun j => .ref (gk G (5 + j))) (gA G) G.2.1 G.2.1.heap ∧ va_Z "FountainShow$Command" "TRIM" "LFountainShow$Command;" (.ref (gk G 9)) (gA G) G.2.1 G.2.1.heap) ∧
  (∀ i, i < 9 → va_O "FountainShow$Command" (gk G (5 + i)) (gA G) G.2.1 G.2.1.heap ∧ va_OF "java/lang/Enum" "ordinal" "I" (.int (nI i)) (gk G (5 + i)) (gA G) G.2.1 G.2.1.heap ∧ va_OF "FountainShow$Command" "pattern" "Ljava/lang/String;" (.ref (gk G (20 + i))) (gk G (5 + i)) (gA G) G.2.1 G.2.1.heap ∧ STR G (gk G (20 + i)) (gk G (30 + i)) (pats.getD i "")) ∧
  (va_Z "FountainShow$1" "$SwitchMap$FountainShow$Command" "[I" (.ref (gk G 16)) (gA G) G.2.1 G.2.1.heap ∧ va_T .int (gk G 16) 9 (fun j => .int (swc.getD j 0)) (gA G) G.2.1 G.2.1.heap) ∧
  va_Z "java/lang/String" "COMPACT_STRINGS" "Z" (.int 1) (gA G) G.2.1 G.2.1.heap ∧ va_Zq "jdk/internal/util/Preconditions" "SIOOBE_FORMATTER" "Ljava/util/function/BiFunction;" (gA G) G.2.1 G.2.1.heap ∧ (va_Z "java/lang/Integer" "DigitOnes" "[B" (.ref (gk G 40)) (gA G) G.2.1 G.2.1.heap ∧ va_T .byte (gk G 40) 100 (fun j => .int (nI (48 + j % 10))) (gA G) G.2.1 G.2.1.heap) ∧ va_Z "java/lang/Integer" "DigitTens" "[B" (.ref (gk G 41)) (gA G) G.2.1 G.2.1.heap ∧ va_T .byte (gk G 41) 100 (fun j => .int (nI (48 + j / 10))) (gA G) G.2.1 G.2.1.heap
/-- pairs of exceptions' classes that are not castable -/
def ncs : List (String × String) := [("java/lang/IndexOutOfBoundsException", "java/lang/IllegalArgumentException"), ("java/lang/UnsupportedOperationException", "java/lang/IllegalArgumentException"), ("java/lang/IllegalStateException", "java/lang/IllegalArgumentException"), ("java/util/NoSuchElementException", "java/lang/IllegalArgumentException"), ("java/lang/ArithmeticException", "java/lang/IllegalArgumentException"), ("java/lang/IndexOutOfBoundsException", "java/lang/UnsupportedOperationException"), ("java/lang/IllegalArgumentException", "java/lang/UnsupportedOperationException"), ("java/lang/IllegalStateException", "java/lang/UnsupportedOperationException"), ("java/util/NoSuchElementException", "java/lang/UnsupportedOperationException"), ("java/lang/ArithmeticException", "java/lang/UnsupportedOperationException"), ("java/lang/IndexOutOfBoundsException", "java/lang/IllegalStateException"), ("java/lang/IllegalArgumentException", "java/lang/IllegalStateException"), ("java/lang/UnsupportedOperationException", "java/lang/IllegalStateException"), ("java/util/NoSuchElementException", "java/lang/IllegalStateException"), ("java/lang/ArithmeticException", "java/lang/IllegalStateException"), ("java/lang/IllegalArgumentException", "java/lang/IndexOutOfBoundsException"), ("java/lang/UnsupportedOperationException", "java/lang/IndexOutOfBoundsException"), ("java/lang/IllegalStateException", "java/lang/IndexOutOfBoundsException"), ("java/util/NoSuchElementException", "java/lang/IndexOutOfBoundsException"), ("java/lang/ArithmeticException", "java/lang/IndexOutOfBoundsException"), ("java/lang/IndexOutOfBoundsException", "java/util/NoSuchElementException"), ("java/lang/IllegalArgumentException", "java/util/NoSuchElementException"), ("java/lang/UnsupportedOperationException", "java/util/NoSuchElementException"), ("java/lang/IllegalStateException", "java/util/NoSuchElementException"), ("java/lang/ArithmeticException", "java/util/NoSuchElementException"), ("java/lang/IndexOutOfBoundsException", "java/lang/ArithmeticException"), ("java/lang/IllegalArgumentException", "java/lang/ArithmeticException"), ("java/lang/UnsupportedOperationException", "java/lang/ArithmeticException"), ("java/lang/IllegalStateException", "java/lang/ArithmeticException"), ("java/util/NoSuchElementException", "java/lang/ArithmeticException")]
def GOK (G : GA) : Prop := (∀ w ∈ lw_tbl, w.before #[] G.2.1 = true) ∧ G.1.stackTraces = false ∧ va_K G.2.2.1 cls (gtys G.2.2.2.1) G.2.1 ∧ vx_Zq Bundle.tN "UNASSIGNED_STACK" Bundle.steD (gA G) G.2.1 G.2.1.heap ∧ vx_Zq Bundle.tN "SUPPRESSED_SENTINEL" Bundle.listD (gA G) G.2.1 G.2.1.heap ∧ (∀ own k tx, Cond.stringRef own k tx ∈ lw_tbl → ∃ a v, vk_R own k tx a G.2.1 ∧ STR G a v tx) ∧ GX G ∧ ∀ q ∈ ncs, va_Nc q.1 q.2 G.2.1
/-- the heap is as the picture says -/
def Wd (G : GA) (F : AH) (H : Heap) : Prop := H.size = F.1 ∧ gN G ≤ F.1 ∧ (∀ q, q < gN G → H[q]? = G.2.1.heap[q]?) ∧ ∀ q c, F.2 q = some c → va_at G.2.2.1 cls (q, c) H
def lx (l : List (Option Value)) : List (Nat × Value) := l.zipIdx.filterMap (fun q => q.1.map (fun v => (q.2, v)))
theorem lx_mem {l : List (Option Value)} {i : Nat} {v : Value} : (i, v) ∈ lx l ↔ l[i]? = some (some v) := by
  unfold lx
  rw [List.mem_filterMap]
  constructor
  · rintro ⟨⟨w, k⟩, h1, h2⟩
    rw [List.mem_zipIdx_iff_getElem?] at h1
    cases w with
    | none => cases h2
    | some w =>
      simp only [Option.map_some, Option.some.injEq, Prod.mk.injEq] at h2
      obtain ⟨rfl, rfl⟩ := h2
      exact h1
  · intro h
    exact ⟨(some v, i), by rw [List.mem_zipIdx_iff_getElem?]; exact h, rfl⟩
def cat2 : Value → Bool
  | .long _ => true
  | .double _ => true
  | _ => false
theorem cat2_iff {v : Value} : cat2 v = true ↔ v.category = 2 := by cases v <;> simp [cat2, Value.category]
/-- a value of two slots just below place i is broken by a store there -/
def lclr (l : List (Option Value)) : Nat → List (Option Value)
  | 0 => l
  | j + 1 => match l[j]? with
    | some (some w) => bif cat2 w then l.set j none else l
    | _ => l
def ls1 (l : List (Option Value)) (i : Nat) (v : Value) : List (Option Value) := (lclr l i).set i (some v)
def ls2 (l : List (Option Value)) (i : Nat) (v : Value) : List (Option Value) := ((lclr l i).set i (some v)).set (i + 1) none
theorem lclr_get {l : List (Option Value)} {i k : Nat} {w : Value} (h : (lclr l i)[k]? = some (some w)) : l[k]? = some (some w) ∧ (k + 1 = i → ¬ w.category = 2) := by
  cases i with
  | zero => exact ⟨h, fun q => by omega⟩
  | succ j =>
    simp only [lclr] at h
    cases hj : l[j]? with
    | none =>
      rw [hj] at h
      exact ⟨h, fun q => by
        have : k = j := by omega
        subst this
        have h : l[k]? = some (some w) := h
        rw [hj] at h; cases h⟩
    | some z =>
      rw [hj] at h
      cases z with
      | none => exact ⟨h, fun q => by
          have : k = j := by omega
          subst this
          have h : l[k]? = some (some w) := h
          rw [hj] at h; cases h⟩
      | some z =>
        dsimp only at h
        cases hz : cat2 z with
        | false =>
          rw [hz] at h
          have h9 : l[k]? = some (some w) := h
          refine ⟨h9, fun q => ?_⟩
          have : k = j := by omega
          subst this
          rw [hj] at h9
          cases h9
          intro q2
          rw [cat2_iff.mpr q2] at hz; cases hz
        | true =>
          rw [hz] at h
          have h : (l.set j none)[k]? = some (some w) := h
          rw [List.getElem?_set] at h
          by_cases e : j = k
          · subst e
            simp at h
          · rw [if_neg e] at h
            exact ⟨h, fun q => absurd (by omega) e⟩
theorem lx_ls1 {l : List (Option Value)} {i : Nat} {v : Value} : ∀ q ∈ lx (ls1 l i v), q ∈ (i, v) :: (lx l).filter (fun q => !(q.1 == i) && !(q.1 + 1 == i && q.2.category == 2)) := by
  rintro ⟨k, w⟩ h
  rw [lx_mem] at h
  unfold ls1 at h
  rw [List.getElem?_set] at h
  by_cases e : i = k
  · subst e
    rw [if_pos rfl] at h
    split at h
    · cases h; exact List.mem_cons_self
    · cases h
  · rw [if_neg e] at h
    obtain ⟨h1, h2⟩ := lclr_get h
    refine List.mem_cons_of_mem _ (List.mem_filter.mpr ⟨lx_mem.mpr h1, ?_⟩)
    have e' : ¬ k = i := fun q => e q.symm
    simp only [Bool.and_eq_true, Bool.not_eq_true', beq_eq_false_iff_ne, ne_eq, Bool.and_eq_false_iff]
    refine ⟨e', ?_⟩
    by_cases q : k + 1 = i
    · exact Or.inr (h2 q)
    · exact Or.inl q
theorem lx_ls2 {l : List (Option Value)} {i : Nat} {v : Value} : ∀ q ∈ lx (ls2 l i v), q ∈ (i, v) :: (lx l).filter (fun q => !(q.1 == i) && (!(q.1 == i + 1) && !(q.1 + 1 == i && q.2.category == 2))) := by
  rintro ⟨k, w⟩ h
  rw [lx_mem] at h
  unfold ls2 at h
  rw [List.getElem?_set] at h
  by_cases e1 : i + 1 = k
  · subst e1
    rw [if_pos rfl] at h
    split at h <;> cases h
  · rw [if_neg e1, List.getElem?_set] at h
    by_cases e : i = k
    · subst e
      rw [if_pos rfl] at h
      split at h
      · cases h; exact List.mem_cons_self
      · cases h
    · rw [if_neg e] at h
      obtain ⟨h1, h2⟩ := lclr_get h
      refine List.mem_cons_of_mem _ (List.mem_filter.mpr ⟨lx_mem.mpr h1, ?_⟩)
      have e' : ¬ k = i := fun q => e q.symm
      have e1' : ¬ k = i + 1 := fun q => e1 q.symm
      simp only [Bool.and_eq_true, Bool.not_eq_true', beq_eq_false_iff_ne, ne_eq, Bool.and_eq_false_iff]
      refine ⟨e', e1', ?_⟩
      by_cases q : k + 1 = i
      · exact Or.inr (h2 q)
      · exact Or.inl q
theorem lv_mono {ls : Array Slot} {nL : Nat} {l l' : List (Nat × Value)} (h : lv_has ls nL l) (hs : ∀ q ∈ l', q ∈ l) : lv_has ls nL l' := ⟨h.1, h.2.1, fun q hq => h.2.2 q (hs q hq)⟩
/-- what a walk knows at a point -/
def Cf (G : GA) (mi : MI) (d bc bs : Nat) (F : AH) (ls : List (Option Value)) (p : Program) (e : Env) (Rm : Room) (s : State) (m : MethodId) (args : Array Value) (below : List Frame) (meth : Method) (c : Code) (mc ms : Nat) (H : Heap) (locs : List Loc) (cells slots : Nat) (ls0 : Array Slot) : Prop :=
  (p.tables.exec = Jvm.exec ∧ c.code = mi.2.1 ∧ meth.sig.returnType = mi.2.2.2.1 ∧ c.maxLocals = mi.2.2.1 ∧ meth.name = mi.1.name ∧ meth.locks = false ∧ s.vm.findClass mi.1.cls = some m.cls ∧ c.exceptionTable.toList = tableOf mi.2.2.2.2) ∧
  (GOK G ∧ G.2.1.WarmedH s.vm ∧ gN G ≤ s.heap.size ∧ (∀ q, q < gN G → s.heap[q]? = G.2.1.heap[q]?) ∧ s.heap.size ≤ H.size) ∧
  Wd G F H ∧ (∀ z ∈ locs, gN G ≤ z.base) ∧ lv_has ls0 mi.2.2.1 (lx ls) ∧
  (d ≤ Rm.frames ∧ 64 * d ≤ Rm.locals ∧ cells + bc ≤ mc ∧ slots + bs ≤ ms ∧ mc ≤ Rm.cells ∧ ms ≤ Rm.slots)
def QC (G : GA) (R : AR → AH → Prop) : Array Value → State → Outcome → State → Prop := fun _ st o t => ∃ v F', o = .returned v ∧ R (.inl v) F' ∧ Wd G F' t.heap ∧ st.heap.size ≤ t.heap.size
def QX (G : GA) (R : AR → AH → Prop) : String → State → State → Prop := fun E st t => ∃ F', R (.inr E) F' ∧ Wd G F' t.heap ∧ st.heap.size ≤ t.heap.size
/-- the frame of method mi at pc, over the picture F, with d calls deep, bc cells and bs slots left to make: it comes to an end, and R holds of it -/
def AF (G : GA) (mi : MI) (d bc bs : Nat) (R : AR → AH → Prop) (F : AH) (pc : Nat) (ls : List (Option Value)) (st : List Value) : Prop :=
  ∀ (p : Program) (e : Env) (Rm : Room) (s : State) (m : MethodId) (args : Array Value) (below : List Frame) (meth : Method) (c : Code) (mc ms : Nat) (H : Heap) (locs : List Loc) (cells slots : Nat) (ls0 : Array Slot),
    Cf G mi d bc bs F ls p e Rm s m args below meth c mc ms H locs cells slots ls0 →
    W p G.1 e Rm s m args below meth c H locs cells slots (vx_MQ below (QC G R) (QX G R) args s mc ms (gA G)) (F0 m pc ls0 st)
/-- the words of the tables hold at every method's start -/
theorem gw {G : GA} (hG : GOK G) {s : State} {args : Array Value} (hW : G.2.1.WarmedH s.vm) {w : Cond} (hw : w ∈ lw_tbl) (hg : goodWord w = true) : w.before args s = true := word_at hW (good_of_word hg) (hG.1 w hw)
theorem gwF {G : GA} (hG : GOK G) {s : State} {args : Array Value} (hW : G.2.1.WarmedH s.vm) {a : String} {i : Nat} {b n d h : String} (hw : Cond.fieldLinkNest a i b n d h ∈ lw_tbl) : (Cond.fieldLinkNest a i b n d h).before args s = true := va_Nw.use rfl (va_Nw.warmF hW (va_Nw.of rfl (hG.1 _ hw)))
theorem gwM {G : GA} (hG : GOK G) {s : State} {args : Array Value} (hW : G.2.1.WarmedH s.vm) {a : String} {i : Nat} {x : MethodName} {h : String} (hw : Cond.methodLinkNest a i x h ∈ lw_tbl) : (Cond.methodLinkNest a i x h).before args s = true := va_Nw.use rfl (va_Nw.warmM hW (va_Nw.of rfl (hG.1 _ hw)))
theorem gK {G : GA} (hG : GOK G) {s : State} (hW : G.2.1.WarmedH s.vm) : va_K G.2.2.1 cls (gtys G.2.2.2.1) s := va_K.moved hW.alike hG.2.2.1
section AFR
variable {G : GA} {mi : MI} {d bc bs : Nat} {R : AR → AH → Prop} {F : AH} {pc : Nat} {ls : List (Option Value)} {st : List Value}

theorem AF.iconst {n : Int} (v : Int32) (hd : decode mi.2.1 pc = .ok (.iconst n, 1)) (hv : Int32.ofInt n = v) (k : AF G mi d bc bs R F (pc + 1) ls (.int v :: st)) : AF G mi d bc bs R F pc ls (st) := by
  intro p e Rm s m args below meth c mc ms H locs cells slots ls0 hC
  exact lv_iconst hC.1.1 hC.1.2.1 hd hv (k _ _ _ _ _ _ _ _ _ _ _ _ _ _ _ _ hC)
theorem AF.bipush {n : Int} (v : Int32) (hd : decode mi.2.1 pc = .ok (.bipush n, 2)) (hv : (Int8.ofInt n).toInt32 = v) (k : AF G mi d bc bs R F (pc + 2) ls (.int v :: st)) : AF G mi d bc bs R F pc ls (st) := by
  intro p e Rm s m args below meth c mc ms H locs cells slots ls0 hC
  exact lv_bipush hC.1.1 hC.1.2.1 hd hv (k _ _ _ _ _ _ _ _ _ _ _ _ _ _ _ _ hC)
theorem AF.sipush {n : Int} (v : Int32) (hd : decode mi.2.1 pc = .ok (.sipush n, 3)) (hv : (Int16.ofInt n).toInt32 = v) (k : AF G mi d bc bs R F (pc + 3) ls (.int v :: st)) : AF G mi d bc bs R F pc ls (st) := by
  intro p e Rm s m args below meth c mc ms H locs cells slots ls0 hC
  exact lv_sipush hC.1.1 hC.1.2.1 hd hv (k _ _ _ _ _ _ _ _ _ _ _ _ _ _ _ _ hC)
theorem AF.lconst {n : Fin 2} (v : Int64) (hd : decode mi.2.1 pc = .ok (.lconst n, 1)) (hv : Int64.ofNat (n : Nat) = v) (k : AF G mi d bc bs R F (pc + 1) ls (.long v :: st)) : AF G mi d bc bs R F pc ls (st) := by
  intro p e Rm s m args below meth c mc ms H locs cells slots ls0 hC
  exact lv_lconst hC.1.1 hC.1.2.1 hd hv (k _ _ _ _ _ _ _ _ _ _ _ _ _ _ _ _ hC)
theorem AF.iadd {x y : Int32} (hd : decode mi.2.1 pc = .ok (.iadd, 1)) (k : AF G mi d bc bs R F (pc + 1) ls (.int (x + y) :: st)) : AF G mi d bc bs R F pc ls (.int y :: .int x :: st) := by
  intro p e Rm s m args below meth c mc ms H locs cells slots ls0 hC
  exact lv_iadd hC.1.1 hC.1.2.1 hd (k _ _ _ _ _ _ _ _ _ _ _ _ _ _ _ _ hC)
theorem AF.isub {x y : Int32} (hd : decode mi.2.1 pc = .ok (.isub, 1)) (k : AF G mi d bc bs R F (pc + 1) ls (.int (x - y) :: st)) : AF G mi d bc bs R F pc ls (.int y :: .int x :: st) := by
  intro p e Rm s m args below meth c mc ms H locs cells slots ls0 hC
  exact lv_isub hC.1.1 hC.1.2.1 hd (k _ _ _ _ _ _ _ _ _ _ _ _ _ _ _ _ hC)
theorem AF.imul {x y : Int32} (hd : decode mi.2.1 pc = .ok (.imul, 1)) (k : AF G mi d bc bs R F (pc + 1) ls (.int (x * y) :: st)) : AF G mi d bc bs R F pc ls (.int y :: .int x :: st) := by
  intro p e Rm s m args below meth c mc ms H locs cells slots ls0 hC
  exact lv_imul hC.1.1 hC.1.2.1 hd (k _ _ _ _ _ _ _ _ _ _ _ _ _ _ _ _ hC)
theorem AF.iand {x y : Int32} (hd : decode mi.2.1 pc = .ok (.iand, 1)) (k : AF G mi d bc bs R F (pc + 1) ls (.int (x &&& y) :: st)) : AF G mi d bc bs R F pc ls (.int y :: .int x :: st) := by
  intro p e Rm s m args below meth c mc ms H locs cells slots ls0 hC
  exact lv_iand hC.1.1 hC.1.2.1 hd (k _ _ _ _ _ _ _ _ _ _ _ _ _ _ _ _ hC)
theorem AF.ior {x y : Int32} (hd : decode mi.2.1 pc = .ok (.ior, 1)) (k : AF G mi d bc bs R F (pc + 1) ls (.int (x ||| y) :: st)) : AF G mi d bc bs R F pc ls (.int y :: .int x :: st) := by
  intro p e Rm s m args below meth c mc ms H locs cells slots ls0 hC
  exact lv_ior hC.1.1 hC.1.2.1 hd (k _ _ _ _ _ _ _ _ _ _ _ _ _ _ _ _ hC)
theorem AF.idiv {x y : Int32} (hd : decode mi.2.1 pc = .ok (.idiv, 1)) (hne : ¬ y = 0) (k : AF G mi d bc bs R F (pc + 1) ls (.int (x / y) :: st)) : AF G mi d bc bs R F pc ls (.int y :: .int x :: st) := by
  intro p e Rm s m args below meth c mc ms H locs cells slots ls0 hC
  exact lv_idiv hC.1.1 hC.1.2.1 hd hne (k _ _ _ _ _ _ _ _ _ _ _ _ _ _ _ _ hC)
theorem AF.irem {x y : Int32} (hd : decode mi.2.1 pc = .ok (.irem, 1)) (hne : ¬ y = 0) (k : AF G mi d bc bs R F (pc + 1) ls (.int (x - x / y * y) :: st)) : AF G mi d bc bs R F pc ls (.int y :: .int x :: st) := by
  intro p e Rm s m args below meth c mc ms H locs cells slots ls0 hC
  exact lv_irem hC.1.1 hC.1.2.1 hd hne (k _ _ _ _ _ _ _ _ _ _ _ _ _ _ _ _ hC)
theorem AF.ineg {x : Int32} (hd : decode mi.2.1 pc = .ok (.ineg, 1)) (k : AF G mi d bc bs R F (pc + 1) ls (.int (-x) :: st)) : AF G mi d bc bs R F pc ls (.int x :: st) := by
  intro p e Rm s m args below meth c mc ms H locs cells slots ls0 hC
  exact lv_ineg hC.1.1 hC.1.2.1 hd (k _ _ _ _ _ _ _ _ _ _ _ _ _ _ _ _ hC)
theorem AF.ladd {x y : Int64} (hd : decode mi.2.1 pc = .ok (.ladd, 1)) (k : AF G mi d bc bs R F (pc + 1) ls (.long (x + y) :: st)) : AF G mi d bc bs R F pc ls (.long y :: .long x :: st) := by
  intro p e Rm s m args below meth c mc ms H locs cells slots ls0 hC
  exact lv_ladd hC.1.1 hC.1.2.1 hd (k _ _ _ _ _ _ _ _ _ _ _ _ _ _ _ _ hC)
theorem AF.lsub {x y : Int64} (hd : decode mi.2.1 pc = .ok (.lsub, 1)) (k : AF G mi d bc bs R F (pc + 1) ls (.long (x - y) :: st)) : AF G mi d bc bs R F pc ls (.long y :: .long x :: st) := by
  intro p e Rm s m args below meth c mc ms H locs cells slots ls0 hC
  exact lv_lsub hC.1.1 hC.1.2.1 hd (k _ _ _ _ _ _ _ _ _ _ _ _ _ _ _ _ hC)
theorem AF.lneg {x : Int64} (hd : decode mi.2.1 pc = .ok (.lneg, 1)) (k : AF G mi d bc bs R F (pc + 1) ls (.long (-x) :: st)) : AF G mi d bc bs R F pc ls (.long x :: st) := by
  intro p e Rm s m args below meth c mc ms H locs cells slots ls0 hC
  exact lv_lneg hC.1.1 hC.1.2.1 hd (k _ _ _ _ _ _ _ _ _ _ _ _ _ _ _ _ hC)
theorem AF.i2l {x : Int32} (hd : decode mi.2.1 pc = .ok (.i2l, 1)) (k : AF G mi d bc bs R F (pc + 1) ls (.long x.toInt64 :: st)) : AF G mi d bc bs R F pc ls (.int x :: st) := by
  intro p e Rm s m args below meth c mc ms H locs cells slots ls0 hC
  exact lv_i2l hC.1.1 hC.1.2.1 hd rfl (k _ _ _ _ _ _ _ _ _ _ _ _ _ _ _ _ hC)
theorem AF.l2i {x : Int64} (hd : decode mi.2.1 pc = .ok (.l2i, 1)) (k : AF G mi d bc bs R F (pc + 1) ls (.int x.toInt32 :: st)) : AF G mi d bc bs R F pc ls (.long x :: st) := by
  intro p e Rm s m args below meth c mc ms H locs cells slots ls0 hC
  exact lv_l2i hC.1.1 hC.1.2.1 hd rfl (k _ _ _ _ _ _ _ _ _ _ _ _ _ _ _ _ hC)
theorem AF.i2c {x : Int32} (hd : decode mi.2.1 pc = .ok (.i2c, 1)) (k : AF G mi d bc bs R F (pc + 1) ls (.int (x.toUInt32 % 65536).toInt32 :: st)) : AF G mi d bc bs R F pc ls (.int x :: st) := by
  intro p e Rm s m args below meth c mc ms H locs cells slots ls0 hC
  exact lv_i2c hC.1.1 hC.1.2.1 hd rfl (k _ _ _ _ _ _ _ _ _ _ _ _ _ _ _ _ hC)
theorem AF.i2d {x : Int32} (hd : decode mi.2.1 pc = .ok (.i2d, 1)) (k : AF G mi d bc bs R F (pc + 1) ls (.double (FP.i2d x) :: st)) : AF G mi d bc bs R F pc ls (.int x :: st) := by
  intro p e Rm s m args below meth c mc ms H locs cells slots ls0 hC
  exact lv_i2d hC.1.1 hC.1.2.1 hd (k _ _ _ _ _ _ _ _ _ _ _ _ _ _ _ _ hC)
theorem AF.i2f {x : Int32} (hd : decode mi.2.1 pc = .ok (.i2f, 1)) (k : AF G mi d bc bs R F (pc + 1) ls (.float (FP.i2f x) :: st)) : AF G mi d bc bs R F pc ls (.int x :: st) := by
  intro p e Rm s m args below meth c mc ms H locs cells slots ls0 hC
  exact lv_i2f hC.1.1 hC.1.2.1 hd (k _ _ _ _ _ _ _ _ _ _ _ _ _ _ _ _ hC)
theorem AF.ddiv {x y : UInt64} (hd : decode mi.2.1 pc = .ok (.ddiv, 1)) (hne : vf_n64 (FP.ddiv x y)) (k : AF G mi d bc bs R F (pc + 1) ls (.double (FP.ddiv x y) :: st)) : AF G mi d bc bs R F pc ls (.double y :: .double x :: st) := by
  intro p e Rm s m args below meth c mc ms H locs cells slots ls0 hC
  exact lv_ddiv hC.1.1 hC.1.2.1 hd hne (k _ _ _ _ _ _ _ _ _ _ _ _ _ _ _ _ hC)
theorem AF.fdiv {x y : UInt32} (hd : decode mi.2.1 pc = .ok (.fdiv, 1)) (hne : vf_n32 (FP.fdiv x y)) (k : AF G mi d bc bs R F (pc + 1) ls (.float (FP.fdiv x y) :: st)) : AF G mi d bc bs R F pc ls (.float y :: .float x :: st) := by
  intro p e Rm s m args below meth c mc ms H locs cells slots ls0 hC
  exact lv_fdiv hC.1.1 hC.1.2.1 hd hne (k _ _ _ _ _ _ _ _ _ _ _ _ _ _ _ _ hC)
theorem AF.f2d {x : UInt32} (hd : decode mi.2.1 pc = .ok (.f2d, 1)) (hne : vf_n64 (FP.f2d x)) (k : AF G mi d bc bs R F (pc + 1) ls (.double (FP.f2d x) :: st)) : AF G mi d bc bs R F pc ls (.float x :: st) := by
  intro p e Rm s m args below meth c mc ms H locs cells slots ls0 hC
  exact lv_f2d hC.1.1 hC.1.2.1 hd hne (k _ _ _ _ _ _ _ _ _ _ _ _ _ _ _ _ hC)
theorem AF.dcmp {x y : UInt64} {op : CmpOp} (hd : decode mi.2.1 pc = .ok (.dcmp op, 1)) (k : AF G mi d bc bs R F (pc + 1) ls (.int (Op.cmpValue (FP.dcmp x y) op) :: st)) : AF G mi d bc bs R F pc ls (.double y :: .double x :: st) := by
  intro p e Rm s m args below meth c mc ms H locs cells slots ls0 hC
  exact lv_dcmp hC.1.1 hC.1.2.1 hd (k _ _ _ _ _ _ _ _ _ _ _ _ _ _ _ _ hC)
theorem AF.fcmp {x y : UInt32} {op : CmpOp} (hd : decode mi.2.1 pc = .ok (.fcmp op, 1)) (k : AF G mi d bc bs R F (pc + 1) ls (.int (Op.cmpValue (FP.fcmp x y) op) :: st)) : AF G mi d bc bs R F pc ls (.float y :: .float x :: st) := by
  intro p e Rm s m args below meth c mc ms H locs cells slots ls0 hC
  exact lv_fcmp hC.1.1 hC.1.2.1 hd (k _ _ _ _ _ _ _ _ _ _ _ _ _ _ _ _ hC)
theorem AF.dconst0  (hd : decode mi.2.1 pc = .ok (.dconst 0, 1)) (k : AF G mi d bc bs R F (pc + 1) ls ((.double FP.dconst0) :: st)) : AF G mi d bc bs R F pc ls (st) := by
  intro p e Rm s m args below meth c mc ms H locs cells slots ls0 hC
  exact lv_dconst0 hC.1.1 hC.1.2.1 hd (k _ _ _ _ _ _ _ _ _ _ _ _ _ _ _ _ hC)
theorem AF.fconst0  (hd : decode mi.2.1 pc = .ok (.fconst 0, 1)) (k : AF G mi d bc bs R F (pc + 1) ls ((.float FP.fconst0) :: st)) : AF G mi d bc bs R F pc ls (st) := by
  intro p e Rm s m args below meth c mc ms H locs cells slots ls0 hC
  exact lv_fconst0 hC.1.1 hC.1.2.1 hd (k _ _ _ _ _ _ _ _ _ _ _ _ _ _ _ _ hC)
theorem AF.iload_n {i : Fin 4} {x : Int32} (hd : decode mi.2.1 pc = .ok (.iload_n i, 1)) (hl : ls[(i : Nat)]? = some (some (.int x))) (k : AF G mi d bc bs R F (pc + 1) ls (.int x :: st)) : AF G mi d bc bs R F pc ls st := by
  intro p e Rm s m args below meth c mc ms H locs cells slots ls0 hC
  exact lv_iload_n hC.1.1 hC.1.2.1 hd rfl (hC.2.2.2.2.1.2.2 _ (lx_mem.mpr hl)) (k _ _ _ _ _ _ _ _ _ _ _ _ _ _ _ _ hC)
theorem AF.iload {i : Nat} {x : Int32} (hd : decode mi.2.1 pc = .ok (.iload i, 2)) (hl : ls[i]? = some (some (.int x))) (k : AF G mi d bc bs R F (pc + 2) ls (.int x :: st)) : AF G mi d bc bs R F pc ls st := by
  intro p e Rm s m args below meth c mc ms H locs cells slots ls0 hC
  exact lv_iload hC.1.1 hC.1.2.1 hd (hC.2.2.2.2.1.2.2 _ (lx_mem.mpr hl)) (k _ _ _ _ _ _ _ _ _ _ _ _ _ _ _ _ hC)
theorem AF.lload_n {i : Fin 4} {x : Int64} (hd : decode mi.2.1 pc = .ok (.lload_n i, 1)) (hl : ls[(i : Nat)]? = some (some (.long x))) (k : AF G mi d bc bs R F (pc + 1) ls (.long x :: st)) : AF G mi d bc bs R F pc ls st := by
  intro p e Rm s m args below meth c mc ms H locs cells slots ls0 hC
  exact lv_lload_n hC.1.1 hC.1.2.1 hd rfl (hC.2.2.2.2.1.2.2 _ (lx_mem.mpr hl)) (k _ _ _ _ _ _ _ _ _ _ _ _ _ _ _ _ hC)
theorem AF.lload {i : Nat} {x : Int64} (hd : decode mi.2.1 pc = .ok (.lload i, 2)) (hl : ls[i]? = some (some (.long x))) (k : AF G mi d bc bs R F (pc + 2) ls (.long x :: st)) : AF G mi d bc bs R F pc ls st := by
  intro p e Rm s m args below meth c mc ms H locs cells slots ls0 hC
  exact lv_lload hC.1.1 hC.1.2.1 hd (hC.2.2.2.2.1.2.2 _ (lx_mem.mpr hl)) (k _ _ _ _ _ _ _ _ _ _ _ _ _ _ _ _ hC)
theorem AF.fload_n {i : Fin 4} {x : UInt32} (hd : decode mi.2.1 pc = .ok (.fload_n i, 1)) (hl : ls[(i : Nat)]? = some (some (.float x))) (k : AF G mi d bc bs R F (pc + 1) ls (.float x :: st)) : AF G mi d bc bs R F pc ls st := by
  intro p e Rm s m args below meth c mc ms H locs cells slots ls0 hC
  exact lv_fload_n hC.1.1 hC.1.2.1 hd rfl (hC.2.2.2.2.1.2.2 _ (lx_mem.mpr hl)) (k _ _ _ _ _ _ _ _ _ _ _ _ _ _ _ _ hC)
theorem AF.fload {i : Nat} {x : UInt32} (hd : decode mi.2.1 pc = .ok (.fload i, 2)) (hl : ls[i]? = some (some (.float x))) (k : AF G mi d bc bs R F (pc + 2) ls (.float x :: st)) : AF G mi d bc bs R F pc ls st := by
  intro p e Rm s m args below meth c mc ms H locs cells slots ls0 hC
  exact lv_fload hC.1.1 hC.1.2.1 hd (hC.2.2.2.2.1.2.2 _ (lx_mem.mpr hl)) (k _ _ _ _ _ _ _ _ _ _ _ _ _ _ _ _ hC)
theorem AF.dload_n {i : Fin 4} {x : UInt64} (hd : decode mi.2.1 pc = .ok (.dload_n i, 1)) (hl : ls[(i : Nat)]? = some (some (.double x))) (k : AF G mi d bc bs R F (pc + 1) ls (.double x :: st)) : AF G mi d bc bs R F pc ls st := by
  intro p e Rm s m args below meth c mc ms H locs cells slots ls0 hC
  exact lv_dload_n hC.1.1 hC.1.2.1 hd rfl (hC.2.2.2.2.1.2.2 _ (lx_mem.mpr hl)) (k _ _ _ _ _ _ _ _ _ _ _ _ _ _ _ _ hC)
theorem AF.dload {i : Nat} {x : UInt64} (hd : decode mi.2.1 pc = .ok (.dload i, 2)) (hl : ls[i]? = some (some (.double x))) (k : AF G mi d bc bs R F (pc + 2) ls (.double x :: st)) : AF G mi d bc bs R F pc ls st := by
  intro p e Rm s m args below meth c mc ms H locs cells slots ls0 hC
  exact lv_dload hC.1.1 hC.1.2.1 hd (hC.2.2.2.2.1.2.2 _ (lx_mem.mpr hl)) (k _ _ _ _ _ _ _ _ _ _ _ _ _ _ _ _ hC)
theorem AF.aload_n {i : Fin 4} {x : Nat} (hd : decode mi.2.1 pc = .ok (.aload_n i, 1)) (hl : ls[(i : Nat)]? = some (some (.ref x))) (k : AF G mi d bc bs R F (pc + 1) ls (.ref x :: st)) : AF G mi d bc bs R F pc ls st := by
  intro p e Rm s m args below meth c mc ms H locs cells slots ls0 hC
  exact lv_aload_n hC.1.1 hC.1.2.1 hd rfl (hC.2.2.2.2.1.2.2 _ (lx_mem.mpr hl)) (k _ _ _ _ _ _ _ _ _ _ _ _ _ _ _ _ hC)
theorem AF.aload {i : Nat} {x : Nat} (hd : decode mi.2.1 pc = .ok (.aload i, 2)) (hl : ls[i]? = some (some (.ref x))) (k : AF G mi d bc bs R F (pc + 2) ls (.ref x :: st)) : AF G mi d bc bs R F pc ls st := by
  intro p e Rm s m args below meth c mc ms H locs cells slots ls0 hC
  exact lv_aload hC.1.1 hC.1.2.1 hd (hC.2.2.2.2.1.2.2 _ (lx_mem.mpr hl)) (k _ _ _ _ _ _ _ _ _ _ _ _ _ _ _ _ hC)
theorem Cf.sub {p : Program} {e : Env} {Rm : Room} {s : State} {m : MethodId} {args : Array Value} {below : List Frame} {meth : Method} {c : Code} {mc ms : Nat} {H : Heap} {locs : List Loc} {cells slots : Nat} {ls0 ls0' : Array Slot} {ls' : List (Option Value)} (hC : Cf G mi d bc bs F ls p e Rm s m args below meth c mc ms H locs cells slots ls0) {l : List (Nat × Value)} (h : lv_has ls0' mi.2.2.1 l) (hs : ∀ q ∈ lx ls', q ∈ l) : Cf G mi d bc bs F ls' p e Rm s m args below meth c mc ms H locs cells slots ls0' :=
  ⟨hC.1, hC.2.1, hC.2.2.1, hC.2.2.2.1, lv_mono h hs, hC.2.2.2.2.2⟩
theorem AF.istore_n {i : Fin 4} {x : Int32} (hd : decode mi.2.1 pc = .ok (.istore_n i, 1)) (hn : (i : Nat) < mi.2.2.1) (k : AF G mi d bc bs R F (pc + 1) (ls1 ls i (.int x)) st) : AF G mi d bc bs R F pc ls (.int x :: st) := by
  intro p e Rm s m args below meth c mc ms H locs cells slots ls0 hC
  exact lv_istore_n hC.1.1 hC.1.2.1 hd rfl hC.2.2.2.2.1 hn rfl (fun ls' hl => k _ _ _ _ _ _ _ _ _ _ _ _ _ _ _ _ (hC.sub hl lx_ls1))
theorem AF.istore {i : Nat} {x : Int32} (hd : decode mi.2.1 pc = .ok (.istore i, 2)) (hn : i < mi.2.2.1) (k : AF G mi d bc bs R F (pc + 2) (ls1 ls i (.int x)) st) : AF G mi d bc bs R F pc ls (.int x :: st) := by
  intro p e Rm s m args below meth c mc ms H locs cells slots ls0 hC
  exact lv_istore hC.1.1 hC.1.2.1 hd hC.2.2.2.2.1 hn rfl (fun ls' hl => k _ _ _ _ _ _ _ _ _ _ _ _ _ _ _ _ (hC.sub hl lx_ls1))
theorem AF.lstore_n {i : Fin 4} {x : Int64} (hd : decode mi.2.1 pc = .ok (.lstore_n i, 1)) (hn : (i : Nat) + 1 < mi.2.2.1) (k : AF G mi d bc bs R F (pc + 1) (ls2 ls i (.long x)) st) : AF G mi d bc bs R F pc ls (.long x :: st) := by
  intro p e Rm s m args below meth c mc ms H locs cells slots ls0 hC
  exact lv_lstore_n hC.1.1 hC.1.2.1 hd rfl hC.2.2.2.2.1 hn rfl (fun ls' hl => k _ _ _ _ _ _ _ _ _ _ _ _ _ _ _ _ (hC.sub hl lx_ls2))
theorem AF.lstore {i : Nat} {x : Int64} (hd : decode mi.2.1 pc = .ok (.lstore i, 2)) (hn : i + 1 < mi.2.2.1) (k : AF G mi d bc bs R F (pc + 2) (ls2 ls i (.long x)) st) : AF G mi d bc bs R F pc ls (.long x :: st) := by
  intro p e Rm s m args below meth c mc ms H locs cells slots ls0 hC
  exact lv_lstore hC.1.1 hC.1.2.1 hd hC.2.2.2.2.1 hn rfl (fun ls' hl => k _ _ _ _ _ _ _ _ _ _ _ _ _ _ _ _ (hC.sub hl lx_ls2))
theorem AF.fstore_n {i : Fin 4} {x : UInt32} (hd : decode mi.2.1 pc = .ok (.fstore_n i, 1)) (hn : (i : Nat) < mi.2.2.1) (k : AF G mi d bc bs R F (pc + 1) (ls1 ls i (.float x)) st) : AF G mi d bc bs R F pc ls (.float x :: st) := by
  intro p e Rm s m args below meth c mc ms H locs cells slots ls0 hC
  exact lv_fstore_n hC.1.1 hC.1.2.1 hd rfl hC.2.2.2.2.1 hn rfl (fun ls' hl => k _ _ _ _ _ _ _ _ _ _ _ _ _ _ _ _ (hC.sub hl lx_ls1))
theorem AF.fstore {i : Nat} {x : UInt32} (hd : decode mi.2.1 pc = .ok (.fstore i, 2)) (hn : i < mi.2.2.1) (k : AF G mi d bc bs R F (pc + 2) (ls1 ls i (.float x)) st) : AF G mi d bc bs R F pc ls (.float x :: st) := by
  intro p e Rm s m args below meth c mc ms H locs cells slots ls0 hC
  exact lv_fstore hC.1.1 hC.1.2.1 hd hC.2.2.2.2.1 hn rfl (fun ls' hl => k _ _ _ _ _ _ _ _ _ _ _ _ _ _ _ _ (hC.sub hl lx_ls1))
theorem AF.dstore_n {i : Fin 4} {x : UInt64} (hd : decode mi.2.1 pc = .ok (.dstore_n i, 1)) (hn : (i : Nat) + 1 < mi.2.2.1) (k : AF G mi d bc bs R F (pc + 1) (ls2 ls i (.double x)) st) : AF G mi d bc bs R F pc ls (.double x :: st) := by
  intro p e Rm s m args below meth c mc ms H locs cells slots ls0 hC
  exact lv_dstore_n hC.1.1 hC.1.2.1 hd rfl hC.2.2.2.2.1 hn rfl (fun ls' hl => k _ _ _ _ _ _ _ _ _ _ _ _ _ _ _ _ (hC.sub hl lx_ls2))
theorem AF.dstore {i : Nat} {x : UInt64} (hd : decode mi.2.1 pc = .ok (.dstore i, 2)) (hn : i + 1 < mi.2.2.1) (k : AF G mi d bc bs R F (pc + 2) (ls2 ls i (.double x)) st) : AF G mi d bc bs R F pc ls (.double x :: st) := by
  intro p e Rm s m args below meth c mc ms H locs cells slots ls0 hC
  exact lv_dstore hC.1.1 hC.1.2.1 hd hC.2.2.2.2.1 hn rfl (fun ls' hl => k _ _ _ _ _ _ _ _ _ _ _ _ _ _ _ _ (hC.sub hl lx_ls2))
theorem AF.astore_n {i : Fin 4} {x : Nat} (hd : decode mi.2.1 pc = .ok (.astore_n i, 1)) (hn : (i : Nat) < mi.2.2.1) (k : AF G mi d bc bs R F (pc + 1) (ls1 ls i (.ref x)) st) : AF G mi d bc bs R F pc ls (.ref x :: st) := by
  intro p e Rm s m args below meth c mc ms H locs cells slots ls0 hC
  exact lv_astore_n hC.1.1 hC.1.2.1 hd rfl hC.2.2.2.2.1 hn rfl (fun ls' hl => k _ _ _ _ _ _ _ _ _ _ _ _ _ _ _ _ (hC.sub hl lx_ls1))
theorem AF.astore {i : Nat} {x : Nat} (hd : decode mi.2.1 pc = .ok (.astore i, 2)) (hn : i < mi.2.2.1) (k : AF G mi d bc bs R F (pc + 2) (ls1 ls i (.ref x)) st) : AF G mi d bc bs R F pc ls (.ref x :: st) := by
  intro p e Rm s m args below meth c mc ms H locs cells slots ls0 hC
  exact lv_astore hC.1.1 hC.1.2.1 hd hC.2.2.2.2.1 hn rfl (fun ls' hl => k _ _ _ _ _ _ _ _ _ _ _ _ _ _ _ _ (hC.sub hl lx_ls1))
theorem AF.iinc {i : Nat} {n : Int} {x : Int32} (hd : decode mi.2.1 pc = .ok (.iinc i n, 3)) (hl : ls[i]? = some (some (.int x))) (hn : i < mi.2.2.1) (k : AF G mi d bc bs R F (pc + 3) (ls1 ls i (.int (x + Int32.ofInt n))) st) : AF G mi d bc bs R F pc ls st := by
  intro p e Rm s m args below meth c mc ms H locs cells slots ls0 hC
  obtain ⟨j, hj⟩ := List.getElem?_of_mem (lx_mem.mpr hl)
  exact lv_iinc hC.1.1 hC.1.2.1 hd hC.2.2.2.2.1 hj rfl hn rfl (fun ls' hl => k _ _ _ _ _ _ _ _ _ _ _ _ _ _ _ _ (hC.sub hl lx_ls1))
theorem AF.dup {v : Value} (hd : decode mi.2.1 pc = .ok (.dup, 1)) (hc : v.category = 1) (k : AF G mi d bc bs R F (pc + 1) ls (v :: v :: st)) : AF G mi d bc bs R F pc ls (v :: st) := by
  intro p e Rm s m args below meth c mc ms H locs cells slots ls0 hC
  exact lv_dup hC.1.1 hC.1.2.1 hd hc (k _ _ _ _ _ _ _ _ _ _ _ _ _ _ _ _ hC)
theorem AF.pop {v : Value} (hd : decode mi.2.1 pc = .ok (.pop, 1)) (hc : v.category = 1) (k : AF G mi d bc bs R F (pc + 1) ls st) : AF G mi d bc bs R F pc ls (v :: st) := by
  intro p e Rm s m args below meth c mc ms H locs cells slots ls0 hC
  exact lv_pop hC.1.1 hC.1.2.1 hd hc (k _ _ _ _ _ _ _ _ _ _ _ _ _ _ _ _ hC)
theorem AF.dup2 {v w : Value} (hd : decode mi.2.1 pc = .ok (.dup2, 1)) (hc : v.category = 1) (hw : w.category = 1) (k : AF G mi d bc bs R F (pc + 1) ls (v :: w :: v :: w :: st)) : AF G mi d bc bs R F pc ls (v :: w :: st) := by
  intro p e Rm s m args below meth c mc ms H locs cells slots ls0 hC
  exact lv_dup2_11 hC.1.1 hC.1.2.1 hd hc hw (k _ _ _ _ _ _ _ _ _ _ _ _ _ _ _ _ hC)
theorem AF.if_eq {x : Int32} {off : Int} (tgt : Nat) (hd : decode mi.2.1 pc = .ok (.ifCond .eq off, 3)) (ht : (pc : Int) + off = (tgt : Int)) (kt : (x = 0) → AF G mi d bc bs R F tgt ls st) (kf : ¬ (x = 0) → AF G mi d bc bs R F (pc + 3) ls st) : AF G mi d bc bs R F pc ls (.int x :: st) := by
  intro p e Rm s m args below meth c mc ms H locs cells slots ls0 hC
  exact lv_if_eq hC.1.1 hC.1.2.1 hd ht (fun h => kt h _ _ _ _ _ _ _ _ _ _ _ _ _ _ _ _ hC) (fun h => kf h _ _ _ _ _ _ _ _ _ _ _ _ _ _ _ _ hC)
theorem AF.icmp_eq {x y : Int32} {off : Int} (tgt : Nat) (hd : decode mi.2.1 pc = .ok (.if_icmp .eq off, 3)) (ht : (pc : Int) + off = (tgt : Int)) (kt : (x = y) → AF G mi d bc bs R F tgt ls st) (kf : ¬ (x = y) → AF G mi d bc bs R F (pc + 3) ls st) : AF G mi d bc bs R F pc ls (.int y :: .int x :: st) := by
  intro p e Rm s m args below meth c mc ms H locs cells slots ls0 hC
  exact lv_icmp_eq hC.1.1 hC.1.2.1 hd ht (fun h => kt h _ _ _ _ _ _ _ _ _ _ _ _ _ _ _ _ hC) (fun h => kf h _ _ _ _ _ _ _ _ _ _ _ _ _ _ _ _ hC)
theorem AF.if_ne {x : Int32} {off : Int} (tgt : Nat) (hd : decode mi.2.1 pc = .ok (.ifCond .ne off, 3)) (ht : (pc : Int) + off = (tgt : Int)) (kt : (¬ x = 0) → AF G mi d bc bs R F tgt ls st) (kf : x = 0 → AF G mi d bc bs R F (pc + 3) ls st) : AF G mi d bc bs R F pc ls (.int x :: st) := by
  intro p e Rm s m args below meth c mc ms H locs cells slots ls0 hC
  exact lv_if_ne hC.1.1 hC.1.2.1 hd ht (fun h => kt h _ _ _ _ _ _ _ _ _ _ _ _ _ _ _ _ hC) (fun h => kf h _ _ _ _ _ _ _ _ _ _ _ _ _ _ _ _ hC)
theorem AF.icmp_ne {x y : Int32} {off : Int} (tgt : Nat) (hd : decode mi.2.1 pc = .ok (.if_icmp .ne off, 3)) (ht : (pc : Int) + off = (tgt : Int)) (kt : (¬ x = y) → AF G mi d bc bs R F tgt ls st) (kf : x = y → AF G mi d bc bs R F (pc + 3) ls st) : AF G mi d bc bs R F pc ls (.int y :: .int x :: st) := by
  intro p e Rm s m args below meth c mc ms H locs cells slots ls0 hC
  exact lv_icmp_ne hC.1.1 hC.1.2.1 hd ht (fun h => kt h _ _ _ _ _ _ _ _ _ _ _ _ _ _ _ _ hC) (fun h => kf h _ _ _ _ _ _ _ _ _ _ _ _ _ _ _ _ hC)
theorem AF.if_lt {x : Int32} {off : Int} (tgt : Nat) (hd : decode mi.2.1 pc = .ok (.ifCond .lt off, 3)) (ht : (pc : Int) + off = (tgt : Int)) (kt : (x < 0) → AF G mi d bc bs R F tgt ls st) (kf : ¬ (x < 0) → AF G mi d bc bs R F (pc + 3) ls st) : AF G mi d bc bs R F pc ls (.int x :: st) := by
  intro p e Rm s m args below meth c mc ms H locs cells slots ls0 hC
  exact lv_if_lt hC.1.1 hC.1.2.1 hd ht (fun h => kt h _ _ _ _ _ _ _ _ _ _ _ _ _ _ _ _ hC) (fun h => kf h _ _ _ _ _ _ _ _ _ _ _ _ _ _ _ _ hC)
theorem AF.icmp_lt {x y : Int32} {off : Int} (tgt : Nat) (hd : decode mi.2.1 pc = .ok (.if_icmp .lt off, 3)) (ht : (pc : Int) + off = (tgt : Int)) (kt : (x < y) → AF G mi d bc bs R F tgt ls st) (kf : ¬ (x < y) → AF G mi d bc bs R F (pc + 3) ls st) : AF G mi d bc bs R F pc ls (.int y :: .int x :: st) := by
  intro p e Rm s m args below meth c mc ms H locs cells slots ls0 hC
  exact lv_icmp_lt hC.1.1 hC.1.2.1 hd ht (fun h => kt h _ _ _ _ _ _ _ _ _ _ _ _ _ _ _ _ hC) (fun h => kf h _ _ _ _ _ _ _ _ _ _ _ _ _ _ _ _ hC)
theorem AF.if_ge {x : Int32} {off : Int} (tgt : Nat) (hd : decode mi.2.1 pc = .ok (.ifCond .ge off, 3)) (ht : (pc : Int) + off = (tgt : Int)) (kt : (0 ≤ x) → AF G mi d bc bs R F tgt ls st) (kf : ¬ (0 ≤ x) → AF G mi d bc bs R F (pc + 3) ls st) : AF G mi d bc bs R F pc ls (.int x :: st) := by
  intro p e Rm s m args below meth c mc ms H locs cells slots ls0 hC
  exact lv_if_ge hC.1.1 hC.1.2.1 hd ht (fun h => kt h _ _ _ _ _ _ _ _ _ _ _ _ _ _ _ _ hC) (fun h => kf h _ _ _ _ _ _ _ _ _ _ _ _ _ _ _ _ hC)
theorem AF.icmp_ge {x y : Int32} {off : Int} (tgt : Nat) (hd : decode mi.2.1 pc = .ok (.if_icmp .ge off, 3)) (ht : (pc : Int) + off = (tgt : Int)) (kt : (y ≤ x) → AF G mi d bc bs R F tgt ls st) (kf : ¬ (y ≤ x) → AF G mi d bc bs R F (pc + 3) ls st) : AF G mi d bc bs R F pc ls (.int y :: .int x :: st) := by
  intro p e Rm s m args below meth c mc ms H locs cells slots ls0 hC
  exact lv_icmp_ge hC.1.1 hC.1.2.1 hd ht (fun h => kt h _ _ _ _ _ _ _ _ _ _ _ _ _ _ _ _ hC) (fun h => kf h _ _ _ _ _ _ _ _ _ _ _ _ _ _ _ _ hC)
theorem AF.if_gt {x : Int32} {off : Int} (tgt : Nat) (hd : decode mi.2.1 pc = .ok (.ifCond .gt off, 3)) (ht : (pc : Int) + off = (tgt : Int)) (kt : (0 < x) → AF G mi d bc bs R F tgt ls st) (kf : ¬ (0 < x) → AF G mi d bc bs R F (pc + 3) ls st) : AF G mi d bc bs R F pc ls (.int x :: st) := by
  intro p e Rm s m args below meth c mc ms H locs cells slots ls0 hC
  exact lv_if_gt hC.1.1 hC.1.2.1 hd ht (fun h => kt h _ _ _ _ _ _ _ _ _ _ _ _ _ _ _ _ hC) (fun h => kf h _ _ _ _ _ _ _ _ _ _ _ _ _ _ _ _ hC)
theorem AF.icmp_gt {x y : Int32} {off : Int} (tgt : Nat) (hd : decode mi.2.1 pc = .ok (.if_icmp .gt off, 3)) (ht : (pc : Int) + off = (tgt : Int)) (kt : (y < x) → AF G mi d bc bs R F tgt ls st) (kf : ¬ (y < x) → AF G mi d bc bs R F (pc + 3) ls st) : AF G mi d bc bs R F pc ls (.int y :: .int x :: st) := by
  intro p e Rm s m args below meth c mc ms H locs cells slots ls0 hC
  exact lv_icmp_gt hC.1.1 hC.1.2.1 hd ht (fun h => kt h _ _ _ _ _ _ _ _ _ _ _ _ _ _ _ _ hC) (fun h => kf h _ _ _ _ _ _ _ _ _ _ _ _ _ _ _ _ hC)
theorem AF.if_le {x : Int32} {off : Int} (tgt : Nat) (hd : decode mi.2.1 pc = .ok (.ifCond .le off, 3)) (ht : (pc : Int) + off = (tgt : Int)) (kt : (x ≤ 0) → AF G mi d bc bs R F tgt ls st) (kf : ¬ (x ≤ 0) → AF G mi d bc bs R F (pc + 3) ls st) : AF G mi d bc bs R F pc ls (.int x :: st) := by
  intro p e Rm s m args below meth c mc ms H locs cells slots ls0 hC
  exact lv_if_le hC.1.1 hC.1.2.1 hd ht (fun h => kt h _ _ _ _ _ _ _ _ _ _ _ _ _ _ _ _ hC) (fun h => kf h _ _ _ _ _ _ _ _ _ _ _ _ _ _ _ _ hC)
theorem AF.icmp_le {x y : Int32} {off : Int} (tgt : Nat) (hd : decode mi.2.1 pc = .ok (.if_icmp .le off, 3)) (ht : (pc : Int) + off = (tgt : Int)) (kt : (x ≤ y) → AF G mi d bc bs R F tgt ls st) (kf : ¬ (x ≤ y) → AF G mi d bc bs R F (pc + 3) ls st) : AF G mi d bc bs R F pc ls (.int y :: .int x :: st) := by
  intro p e Rm s m args below meth c mc ms H locs cells slots ls0 hC
  exact lv_icmp_le hC.1.1 hC.1.2.1 hd ht (fun h => kt h _ _ _ _ _ _ _ _ _ _ _ _ _ _ _ _ hC) (fun h => kf h _ _ _ _ _ _ _ _ _ _ _ _ _ _ _ _ hC)
theorem AF.goto {off : Int} (tgt : Nat) (hd : decode mi.2.1 pc = .ok (.goto off, 3)) (ht : (pc : Int) + off = (tgt : Int)) (k : AF G mi d bc bs R F tgt ls st) : AF G mi d bc bs R F pc ls st := by
  intro p e Rm s m args below meth c mc ms H locs cells slots ls0 hC
  exact lv_goto hC.1.1 hC.1.2.1 hd ht (k _ _ _ _ _ _ _ _ _ _ _ _ _ _ _ _ hC)
theorem AF.switchIn {dflt lo hi : Int} {offs : Array Int} {len : Nat} {x : Int32} {off : Int} (tgt : Nat) (hd : decode mi.2.1 pc = .ok (.tableswitch dflt lo hi offs, len)) (h1 : ¬ x.toInt < lo) (h2 : ¬ hi < x.toInt) (ho : offs[(x.toInt - lo).toNat]? = some off) (ht : (pc : Int) + off = (tgt : Int)) (k : AF G mi d bc bs R F tgt ls st) : AF G mi d bc bs R F pc ls (.int x :: st) := by
  intro p e Rm s m args below meth c mc ms H locs cells slots ls0 hC
  exact lv_tableIn hC.1.1 hC.1.2.1 hd h1 h2 ho ht (k _ _ _ _ _ _ _ _ _ _ _ _ _ _ _ _ hC)
theorem AF.switchOut {dflt lo hi : Int} {offs : Array Int} {len : Nat} {x : Int32} (tgt : Nat) (hd : decode mi.2.1 pc = .ok (.tableswitch dflt lo hi offs, len)) (h : x.toInt < lo ∨ hi < x.toInt) (ht : (pc : Int) + dflt = (tgt : Int)) (k : AF G mi d bc bs R F tgt ls st) : AF G mi d bc bs R F pc ls (.int x :: st) := by
  intro p e Rm s m args below meth c mc ms H locs cells slots ls0 hC
  exact lv_tableOut hC.1.1 hC.1.2.1 hd h ht (k _ _ _ _ _ _ _ _ _ _ _ _ _ _ _ _ hC)
end AFR
