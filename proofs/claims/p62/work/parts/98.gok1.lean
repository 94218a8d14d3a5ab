/-! What the start gives: its premises by their places. -/
/-- a condition's parts, in their order -/
def flatA : Cond → List Cond → List Cond
  | .and a b, acc => flatA a (flatA b acc)
  | c, acc => c :: acc
theorem flatA_before {args : Array Value} {s : State} : ∀ (T : Cond) (acc : List Cond), T.before args s = true → (∀ w ∈ acc, w.before args s = true) → ∀ w ∈ flatA T acc, w.before args s = true := by
  intro T
  induction T with
  | and a b iha ihb =>
    intro acc h hacc
    rw [Cond.before_and, Bool.and_eq_true] at h
    exact iha _ h.1 (ihb _ h.2 hacc)
  | _ =>
    intro acc h hacc w hw
    rcases List.mem_cons.mp hw with rfl | hw
    · exact h
    · exact hacc w hw
abbrev gvn : Cond := Jvm.Cond.and given_1 narrow_1
def nlA : List Cond := flatA gvn []
theorem nl_at {args : Array Value} {s : State} (h : gvn.before args s = true) {w : Cond} (i : Nat) (hw : nlA[i]? = some w) : w.before args s = true :=
  flatA_before gvn [] h (fun _ q => absurd q List.not_mem_nil) w (List.mem_of_getElem? hw)
theorem nl_blk {args : Array Value} {s : State} (h : gvn.before args s = true) {ws : List Cond} (p n : Nat) (hw : (nlA.drop p).take n = ws) : ∀ w ∈ ws, w.before args s = true := fun w q => by
  rw [← hw] at q
  exact flatA_before gvn [] h (fun _ q => absurd q List.not_mem_nil) w (List.mem_of_mem_drop (List.mem_of_mem_take q))
abbrev tP (i : Nat) : Term := .static "FountainShow$Problem" (pnm.getD i "") "LFountainShow$Problem;"
def cnm : List String := ["JET", "OPEN", "PUMP", "WIND", "TRIM", "FIGURE", "STEP", "PLAY", "PASS"]
abbrev tC (i : Nat) : Term := .static "FountainShow$Command" (cnm.getD i "") "LFountainShow$Command;"
def tneed (tm : Term) (ty : FieldType) (n : Nat) (f : Nat → Int32) : List Cond := .arrayOf tm ty :: .eq (.length tm) (.int (Int32.ofNat n)) :: (List.range n).map (fun j => .eq (.elem tm (.int (Int32.ofNat j))) (.int (f j)))
def sneed (own : String) (k : Nat) (tx : String) : List Cond := .exactly (.string own k) "java/lang/String" :: .eq (.field (.string own k) "java/lang/String" "coder" "B") (.int 0) :: tneed (.field (.string own k) "java/lang/String" "value" "[B") .byte tx.toList.length (sby tx)
abbrev tSP : Term := .static "FountainShow$1" "$SwitchMap$FountainShow$Problem" "[I"
abbrev tSC : Term := .static "FountainShow$1" "$SwitchMap$FountainShow$Command" "[I"
abbrev tD1 : Term := .static "java/lang/Integer" "DigitOnes" "[B"
abbrev tD2 : Term := .static "java/lang/Integer" "DigitTens" "[B"
abbrev tCO : Term := .static "FountainShow" "COMMANDS" "[LFountainShow$Command;"
def qPE : List Nat := [17, 36, 10, 13, 22]
def qPO : List Nat := [18, 37, 11, 14, 23]
def qCE : List Nat := [279, 288, 298, 309, 4, 321, 334, 348, 363]
def qCO : List Nat := [280, 289, 299, 310, 5, 322, 335, 349, 364]
def qCP : List Nat := [281, 290, 300, 311, 6, 323, 336, 350, 365]
def cpk : List Nat := [55, 61, 64, 67, 70, 73, 76, 79, 82]
theorem nPE : ∀ i, i < 5 → nlA[qPE.getD i 0]? = some (.exactly (tP i) "FountainShow$Problem") := by decide +kernel
theorem nPO : ∀ i, i < 5 → nlA[qPO.getD i 0]? = some (.eq (.field (tP i) "java/lang/Enum" "ordinal" "I") (.int (nI i))) := by decide +kernel
theorem nCE : ∀ i, i < 9 → nlA[qCE.getD i 0]? = some (.exactly (tC i) "FountainShow$Command") := by decide +kernel
theorem nCO : ∀ i, i < 9 → nlA[qCO.getD i 0]? = some (.eq (.field (tC i) "java/lang/Enum" "ordinal" "I") (.int (nI i))) := by decide +kernel
theorem nCP : ∀ i, i < 9 → nlA[qCP.getD i 0]? = some (.eq (.field (tC i) "FountainShow$Command" "pattern" "Ljava/lang/String;") (.string "FountainShow$Command" (cpk.getD i 0))) := by decide +kernel
def qNE : List (Nat × Nat × Nat) := [(0, 1, 41), (2, 0, 20), (2, 1, 39), (3, 0, 21), (3, 1, 40), (2, 3, 16), (0, 4, 27), (4, 1, 42), (2, 4, 25), (3, 4, 26)]
theorem nNE : ∀ q ∈ qNE, nlA[q.2.2]? = some (.not (.eq (tP q.1) (tP q.2.1))) := by decide +kernel
theorem qNE_all : ∀ i, i < 5 → ∀ j, j < 5 → i = j ∨ (∃ q ∈ qNE, q.1 = i ∧ q.2.1 = j) ∨ ∃ q ∈ qNE, q.1 = j ∧ q.2.1 = i := by decide +kernel
theorem nSP : (nlA.drop 29).take 7 = tneed tSP .int 5 (nI) := by decide +kernel
theorem nSC : (nlA.drop 268).take 11 = tneed tSC .int 9 (fun j => swc.getD j 0) := by decide +kernel
theorem nD1 : (nlA.drop 48).take 102 = tneed tD1 .byte 100 (fun j => nI (48 + j % 10)) := by decide +kernel
theorem nD2 : (nlA.drop 151).take 102 = tneed tD2 .byte 100 (fun j => nI (48 + j / 10)) := by decide +kernel
theorem nCA : nlA[255]? = some (.arrayOf tCO (.object "FountainShow$Command")) := by decide +kernel
theorem nCL : nlA[256]? = some (.eq (.length tCO) (.int (Int32.ofNat 9))) := by decide +kernel
def qCL : List Nat := [258, 259, 260, 261, 262, 263, 264, 265, 266]
theorem nCx : ∀ i, i < 9 → nlA[qCL.getD i 0]? = some (.eq (.elem tCO (.int (Int32.ofNat i))) (tC i)) := by decide +kernel
theorem nCS : nlA[7]? = some (.eq (.static "java/lang/String" "COMPACT_STRINGS" "Z") (.int 1)) := by decide +kernel
theorem nSF : nlA[43]? = some (.isRef (.static "jdk/internal/util/Preconditions" "SIOOBE_FORMATTER" "Ljava/util/function/BiFunction;")) := by decide +kernel
theorem nUN : nlA[8]? = some (.isRef (.static Bundle.tN "UNASSIGNED_STACK" Bundle.steD)) := by decide +kernel
theorem nSE : nlA[9]? = some (.isRef (.static Bundle.tN "SUPPRESSED_SENTINEL" Bundle.listD)) := by decide +kernel
def qNC : List Nat := [388, 393, 394, 391, 395, 422, 425, 428, 426, 429, 439, 442, 445, 443, 446, 456, 459, 460, 457, 461, 405, 408, 410, 411, 412, 471, 474, 477, 478, 475]
theorem nNC : ncs.map (fun q => some (Cond.not (.castable q.1 q.2))) = qNC.map (fun i => nlA[i]?) := by decide +kernel
def sl_0 : List (String × Nat × String) := [("FountainShow", 391, "a forecast is for 0 to 40 beats"), ("FountainShow", 287, "no overload among these beats"), ("FountainShow", 370, "there is no such index"), ("FountainShow", 372, "a number is out of its range"), ("FountainShow", 374, "the position is taken"), ("FountainShow", 376, "the state does not allow it")]
theorem nS_0 : (nlA.drop 479).take 182 = sl_0.flatMap (fun q => sneed q.1 q.2.1 q.2.2) := by decide +kernel
def sl_1 : List (String × Nat × String) := [("FountainShow", 378, "there is no such jet"), ("FountainShow", 387, "there is no such figure or step"), ("FountainShow", 389, "there is no such entry"), ("FountainShowLaw", 268, "pump "), ("FountainShowLaw", 277, ";pass "), ("java/util/Arrays", 337, " > ")]
theorem nS_1 : (nlA.drop 661).take 111 = sl_1.flatMap (fun q => sneed q.1 q.2.1 q.2.2) := by decide +kernel
def sl_2 : List (String × Nat × String) := [("FountainShowLaw", 283, ";trim"), ("FountainShowLaw", 285, ";play "), ("FountainShowLaw", 287, "+"), ("FountainShowLaw", 289, ";"), ("FountainShow", 320, "the input buffer is full"), ("FountainShow", 333, "the text is malformed")]
theorem nS_2 : (nlA.drop 772).take 82 = sl_2.flatMap (fun q => sneed q.1 q.2.1 q.2.2) := by decide +kernel
def sl_3 : List (String × Nat × String) := [("FountainShow", 344, "a command failed"), ("FountainShow", 381, "there is no such figure"), ("java/lang/StringIndexOutOfBoundsException", 13, "String index out of range: "), ("java/util/Arrays", 48, "fromIndex("), ("java/util/Arrays", 57, ") > toIndex("), ("java/util/Arrays", 59, ")")]
theorem nS_3 : (nlA.drop 854).take 113 = sl_3.flatMap (fun q => sneed q.1 q.2.1 q.2.2) := by decide +kernel
def sl_4 : List (String × Nat × String) := [("java/lang/ArrayIndexOutOfBoundsException", 13, "Array index out of range: "), ("FountainShow", 307, "there is no such character"), ("FountainShow", 138, "there is no such place in the order of positions"), ("FountainShow", 291, "there are no jets"), ("FountainShow", 294, "the demand is 0"), ("FountainShow", 351, "there is no change to undo")]
theorem nS_4 : (nlA.drop 967).take 182 = sl_4.flatMap (fun q => sneed q.1 q.2.1 q.2.2) := by decide +kernel
def sl_5 : List (String × Nat × String) := [("FountainShow", 353, "nothing was saved"), ("FountainShow$Command", 70, "trim"), ("FountainShow$Command", 55, "jet N"), ("FountainShow$Command", 61, "open D=N"), ("FountainShow$Command", 64, "pump N"), ("FountainShow$Command", 67, "wind SD")]
theorem nS_5 : (nlA.drop 1149).take 71 = sl_5.flatMap (fun q => sneed q.1 q.2.1 q.2.2) := by decide +kernel
def sl_6 : List (String × Nat × String) := [("FountainShow$Command", 73, "figure"), ("FountainShow$Command", 76, "step D+N:D=N"), ("FountainShow$Command", 79, "play D+N"), ("FountainShow$Command", 82, "pass N")]
theorem nS_6 : (nlA.drop 1220).take 48 = sl_6.flatMap (fun q => sneed q.1 q.2.1 q.2.2) := by decide +kernel
def slist : List (String × Nat × String) := sl_0 ++ sl_1 ++ sl_2 ++ sl_3 ++ sl_4 ++ sl_5 ++ sl_6
theorem nS {args : Array Value} {s : State} (h : gvn.before args s = true) : ∀ q ∈ slist, ∀ w ∈ sneed q.1 q.2.1 q.2.2, w.before args s = true := by
  intro q hq w hw
  simp only [slist, List.mem_append] at hq
  rcases hq with (((((hq | hq) | hq) | hq) | hq) | hq) | hq
  · exact nl_blk h 479 182 nS_0 w (List.mem_flatMap.mpr ⟨q, hq, hw⟩)
  · exact nl_blk h 661 111 nS_1 w (List.mem_flatMap.mpr ⟨q, hq, hw⟩)
  · exact nl_blk h 772 82 nS_2 w (List.mem_flatMap.mpr ⟨q, hq, hw⟩)
  · exact nl_blk h 854 113 nS_3 w (List.mem_flatMap.mpr ⟨q, hq, hw⟩)
  · exact nl_blk h 967 182 nS_4 w (List.mem_flatMap.mpr ⟨q, hq, hw⟩)
  · exact nl_blk h 1149 71 nS_5 w (List.mem_flatMap.mpr ⟨q, hq, hw⟩)
  · exact nl_blk h 1220 48 nS_6 w (List.mem_flatMap.mpr ⟨q, hq, hw⟩)
def isS : Cond → Bool
  | .stringRef a k t => slist.contains (a, k, t)
  | _ => true
theorem lw_S : lw_tbl.all isS = true := by decide +kernel

