/-! A command in the stage: what it asks, what it makes. -/
def NS (G : GA) (F : AH) (x : Nat) (ns : List Int32) : Prop := ∃ nf, F.2 x = some (.inl (gC G 0, 4, .inl nf)) ∧ ns.length ≤ 4 ∧ ∀ i, i < ns.length → nf i = ns.getD i 0
theorem NS.fr {G : GA} {F F' : AH} {x lo hi : Nat} {ns : List Int32} (h : NS G F x ns) (q : Fr lo hi F F') (d : x < lo ∨ hi ≤ x) : NS G F' x ns := by
  obtain ⟨nf, h1, h2⟩ := h
  exact ⟨nf, (q.2 x d).trans h1, h2⟩
section
variable {G : GA} {F : AH} {b x c : Nat} {σ : Sg} {ns : List Int32}
set_option maxRecDepth 100000 in
theorem E_ordinal_ok {a i : Nat} (h : va_OF "java/lang/Enum" "ordinal" "I" (.int (nI i)) a (gA G) G.2.1 G.2.1.heap) : AC G mJx29ce0_ordinal_8abf5 0 0 0 [.ref a] F (AV (some (.int (nI i))) F) := by
  refine AC.of [some (.ref a)] rfl (by decide) (Nat.le_of_ble_eq_true rfl) rfl ?_
  refine AF.aload_n dJx29ce0_ordinal_8abf5_0 rfl ?_
  refine AF.getfieldC dJx29ce0_ordinal_8abf5_1 gs_ord h ?_
  exact AF.ireturn dJx29ce0_ordinal_8abf5_4 rfl ⟨rfl, rfl⟩
theorem AF.uc1 {mi : MI} {d bc bs : Nat} {R : AR → AH → Prop} {pc : Nat} {ls : List (Option Value)} {st : List Value} {mi' : MI} {C owner : String} {y : MethodName} {idx n d' a : Nat} {As rest : List Value} {v : Value} (hd : decode mi.2.1 pc = .ok (.invokevirtual idx, 3)) (hk : KU mi.1.cls idx C owner y mi' n) (hM : AC G mi' d' 0 0 (.ref a :: As) F (AV (some v) F)) (hO : va_O C a (gA G) G.2.1 G.2.1.heap) (hn : As.length = n) (hst : st = As.reverse ++ .ref a :: rest) (hw : (rest.map fun v => v.category).sum ≤ 8) (hdd : d' + 1 ≤ d) (hx : mi.2.2.2.2 = [])
    (k : AF G mi d bc bs R F (pc + 3) ls (v :: rest)) : AF G mi d bc bs R F pc ls st :=
  AF.callUC (mc' := 0) (ms' := 0) hd hk hM hO hn hst hw hdd hx (fun E F' h => AV.x h) (fun v' F' h => by obtain ⟨h1, rfl⟩ := h; cases h1; exact k)
set_option maxRecDepth 100000 in
set_option maxHeartbeats 4000000 in
theorem X7_problemOf_ok (hS : SA G F b σ) (hN : NS G F x ns) (hc : c < 9) (hl : ns.length = nlen c) : AC G mX7_problemOf 2 0 0 [.ref b, .ref (gk G (5 + c)), .ref x] F (AV (some (.ref (gk G (pCm σ c (tdA c ns))))) F) := by
  have hS0 := hS
  obtain ⟨ef, es, ⟨s0, s9, s10⟩, hE, hJ, hG⟩ := hS
  obtain ⟨-, -, ⟨j0, -⟩, -⟩ := id hJ
  obtain ⟨-, -, -, -, ⟨g0, -⟩, -⟩ := id hG
  obtain ⟨nf, n0, n1, n2⟩ := hN
  have e1 : 0 < ns.length → nf 0 = ar ns 0 := fun h => n2 0 h
  have e2 : 1 < ns.length → nf 1 = ar ns 1 := fun h => n2 1 h
  have e3 : 2 < ns.length → nf 2 = ar ns 2 := fun h => n2 2 h
  have e4 : 3 < ns.length → nf 3 = ar ns 3 := fun h => n2 3 h
  refine AC.of [some (.ref b), some (.ref (gk G (5 + c))), some (.ref x)] rfl (by decide) (Nat.le_of_ble_eq_true rfl) rfl (AF.ok fun hK => ?_)
  have hY := hK.2.2.2.2.2.2.1.2.2.2.2.1 c hc
  have hM := hK.2.2.2.2.2.2.1.2.2.2.2.2.1
  refine AF.getstatic dX7_problemOf_0 gs_X7_139 (hM.1) ?_
  refine AF.aload_n dX7_problemOf_3 rfl ?_
  refine AF.uc1 dX7_problemOf_4 ku_X7_144 (E_ordinal_ok hY.2.1) hY.1 rfl rfl (Nat.le_of_ble_eq_true rfl) (by decide) rfl ?_
  refine AF.ialoadT c dX7_problemOf_7 hM.2 rfl hc (by decide) rfl ?_
  rcases (by omega : c = 0 ∨ c = 1 ∨ c = 2 ∨ c = 3 ∨ c = 4 ∨ c = 5 ∨ c = 6 ∨ c = 7 ∨ c = 8) with rfl | rfl | rfl | rfl | rfl | rfl | rfl | rfl | rfl
  · refine AF.switchIn 56 dX7_problemOf_8 (by decide) (by decide) rfl (by decide) ?_
    refine AF.aload_n dX7_problemOf_56 rfl ?_
    refine AF.getfield dX7_problemOf_57 fl_X7_12 (by assumption) rfl ?_
    refine AF.aload_n dX7_problemOf_60 rfl ?_
    refine AF.iconst (nI 0) dX7_problemOf_61 (by decide) ?_
    refine AF.iaload (0) dX7_problemOf_62 (by assumption) (by first | rfl | exact nI_1 _ | (simp only [nI_add, pk_mul, nI_1]; exact congrArg nI (by omega)) | simp only [nI_add, pk_mul, nI_1]) (by omega) (by decide) ?_
    rw [e1 (by rw [hl]; decide)]
    refine AF.v1 dX7_problemOf_63 kv_X7_149 ((X3_problemOfAdding_ok hJ (ar ns 0))) (by assumption) rfl rfl rfl (Nat.le_of_ble_eq_true rfl) (by decide) rfl ?_
    exact AF.areturn dX7_problemOf_66 rfl (Or.inl ⟨_, rfl⟩) (Or.inr ⟨_, rfl⟩) ⟨rfl, rfl⟩
  · refine AF.switchIn 67 dX7_problemOf_8 (by decide) (by decide) rfl (by decide) ?_
    refine AF.aload_n dX7_problemOf_67 rfl ?_
    refine AF.getfield dX7_problemOf_68 fl_X7_12 (by assumption) rfl ?_
    refine AF.aload_n dX7_problemOf_71 rfl ?_
    refine AF.iconst (nI 0) dX7_problemOf_72 (by decide) ?_
    refine AF.iaload (0) dX7_problemOf_73 (by assumption) (by first | rfl | exact nI_1 _ | (simp only [nI_add, pk_mul, nI_1]; exact congrArg nI (by omega)) | simp only [nI_add, pk_mul, nI_1]) (by omega) (by decide) ?_
    refine AF.aload_n dX7_problemOf_74 rfl ?_
    refine AF.iconst (nI 1) dX7_problemOf_75 (by decide) ?_
    refine AF.iaload (1) dX7_problemOf_76 (by assumption) (by first | rfl | exact nI_1 _ | (simp only [nI_add, pk_mul, nI_1]; exact congrArg nI (by omega)) | simp only [nI_add, pk_mul, nI_1]) (by omega) (by decide) ?_
    rw [e1 (by rw [hl]; decide), e2 (by rw [hl]; decide)]
    refine AF.v1 dX7_problemOf_77 kv_X7_153 ((X3_problemOfOpening_ok hJ (ar ns 0) (ar ns 1))) (by assumption) rfl rfl rfl (Nat.le_of_ble_eq_true rfl) (by decide) rfl ?_
    exact AF.areturn dX7_problemOf_80 rfl (Or.inl ⟨_, rfl⟩) (Or.inr ⟨_, rfl⟩) ⟨rfl, rfl⟩
  · refine AF.switchIn 81 dX7_problemOf_8 (by decide) (by decide) rfl (by decide) ?_
    refine AF.aload_n dX7_problemOf_81 rfl ?_
    refine AF.getfield dX7_problemOf_82 fl_X7_12 (by assumption) rfl ?_
    refine AF.aload_n dX7_problemOf_85 rfl ?_
    refine AF.iconst (nI 0) dX7_problemOf_86 (by decide) ?_
    refine AF.iaload (0) dX7_problemOf_87 (by assumption) (by first | rfl | exact nI_1 _ | (simp only [nI_add, pk_mul, nI_1]; exact congrArg nI (by omega)) | simp only [nI_add, pk_mul, nI_1]) (by omega) (by decide) ?_
    rw [e1 (by rw [hl]; decide)]
    refine AF.v1 dX7_problemOf_88 kv_X7_157 ((X3_problemOfCapacity_ok (ar ns 0))) (by assumption) rfl rfl rfl (Nat.le_of_ble_eq_true rfl) (by decide) rfl ?_
    exact AF.areturn dX7_problemOf_91 rfl (Or.inl ⟨_, rfl⟩) (Or.inr ⟨_, rfl⟩) ⟨rfl, rfl⟩
  · refine AF.switchIn 92 dX7_problemOf_8 (by decide) (by decide) rfl (by decide) ?_
    refine AF.aload_n dX7_problemOf_92 rfl ?_
    refine AF.getfield dX7_problemOf_93 fl_X7_12 (by assumption) rfl ?_
    refine AF.aload_n dX7_problemOf_96 rfl ?_
    refine AF.iconst (nI 0) dX7_problemOf_97 (by decide) ?_
    refine AF.iaload (0) dX7_problemOf_98 (by assumption) (by first | rfl | exact nI_1 _ | (simp only [nI_add, pk_mul, nI_1]; exact congrArg nI (by omega)) | simp only [nI_add, pk_mul, nI_1]) (by omega) (by decide) ?_
    refine AF.aload_n dX7_problemOf_99 rfl ?_
    refine AF.iconst (nI 1) dX7_problemOf_100 (by decide) ?_
    refine AF.iaload (1) dX7_problemOf_101 (by assumption) (by first | rfl | exact nI_1 _ | (simp only [nI_add, pk_mul, nI_1]; exact congrArg nI (by omega)) | simp only [nI_add, pk_mul, nI_1]) (by omega) (by decide) ?_
    refine AF.imul dX7_problemOf_102 ?_
    rw [e1 (by rw [hl]; decide), e2 (by rw [hl]; decide)]
    refine AF.v1 dX7_problemOf_103 kv_X7_160 ((X3_problemOfWind_ok (ar ns 0 * ar ns 1))) (by assumption) rfl rfl rfl (Nat.le_of_ble_eq_true rfl) (by decide) rfl ?_
    exact AF.areturn dX7_problemOf_106 rfl (Or.inl ⟨_, rfl⟩) (Or.inr ⟨_, rfl⟩) ⟨rfl, rfl⟩
  · refine AF.switchOut 151 dX7_problemOf_8 (by decide) (by decide) ?_
    refine AF.getstatic dX7_problemOf_151 gs_X7_80 (pz hK 0 (by decide)) ?_
    exact AF.areturn dX7_problemOf_154 rfl (Or.inl ⟨_, rfl⟩) (Or.inr ⟨_, rfl⟩) ⟨rfl, rfl⟩
  · refine AF.switchIn 107 dX7_problemOf_8 (by decide) (by decide) rfl (by decide) ?_
    refine AF.aload_n dX7_problemOf_107 rfl ?_
    refine AF.getfield dX7_problemOf_108 fl_X7_21 (by assumption) rfl ?_
    refine AF.v1 dX7_problemOf_111 kv_X7_163 ((X2_problemOfAdding_ok hG)) (by assumption) rfl rfl rfl (Nat.le_of_ble_eq_true rfl) (by decide) rfl ?_
    exact AF.areturn dX7_problemOf_114 rfl (Or.inl ⟨_, rfl⟩) (Or.inr ⟨_, rfl⟩) ⟨rfl, rfl⟩
  · refine AF.switchIn 115 dX7_problemOf_8 (by decide) (by decide) rfl (by decide) ?_
    refine AF.aload_n dX7_problemOf_115 rfl ?_
    refine AF.aload_n dX7_problemOf_116 rfl ?_
    refine AF.iconst (nI 0) dX7_problemOf_117 (by decide) ?_
    refine AF.iaload (0) dX7_problemOf_118 (by assumption) (by first | rfl | exact nI_1 _ | (simp only [nI_add, pk_mul, nI_1]; exact congrArg nI (by omega)) | simp only [nI_add, pk_mul, nI_1]) (by omega) (by decide) ?_
    refine AF.aload_n dX7_problemOf_119 rfl ?_
    refine AF.iconst (nI 1) dX7_problemOf_120 (by decide) ?_
    refine AF.iaload (1) dX7_problemOf_121 (by assumption) (by first | rfl | exact nI_1 _ | (simp only [nI_add, pk_mul, nI_1]; exact congrArg nI (by omega)) | simp only [nI_add, pk_mul, nI_1]) (by omega) (by decide) ?_
    refine AF.aload_n dX7_problemOf_122 rfl ?_
    refine AF.iconst (nI 2) dX7_problemOf_123 (by decide) ?_
    refine AF.iaload (2) dX7_problemOf_124 (by assumption) (by first | rfl | exact nI_1 _ | (simp only [nI_add, pk_mul, nI_1]; exact congrArg nI (by omega)) | simp only [nI_add, pk_mul, nI_1]) (by omega) (by decide) ?_
    refine AF.aload_n dX7_problemOf_125 rfl ?_
    refine AF.iconst (nI 3) dX7_problemOf_126 (by decide) ?_
    refine AF.iaload (3) dX7_problemOf_127 (by assumption) (by first | rfl | exact nI_1 _ | (simp only [nI_add, pk_mul, nI_1]; exact congrArg nI (by omega)) | simp only [nI_add, pk_mul, nI_1]) (by omega) (by decide) ?_
    rw [e1 (by rw [hl]; decide), e2 (by rw [hl]; decide), e3 (by rw [hl]; decide), e4 (by rw [hl]; decide)]
    refine AF.v1 dX7_problemOf_128 kv_X7_166 ((X7_problemOfStep_ok hS0 (ar ns 0) (ar ns 1) (ar ns 2) (ar ns 3))) (by assumption) rfl rfl rfl (Nat.le_of_ble_eq_true rfl) (by decide) rfl ?_
    exact AF.areturn dX7_problemOf_131 rfl (Or.inl ⟨_, rfl⟩) (Or.inr ⟨_, rfl⟩) ⟨rfl, rfl⟩
  · refine AF.switchIn 132 dX7_problemOf_8 (by decide) (by decide) rfl (by decide) ?_
    refine AF.aload_n dX7_problemOf_132 rfl ?_
    refine AF.aload_n dX7_problemOf_133 rfl ?_
    refine AF.iconst (nI 0) dX7_problemOf_134 (by decide) ?_
    refine AF.iaload (0) dX7_problemOf_135 (by assumption) (by first | rfl | exact nI_1 _ | (simp only [nI_add, pk_mul, nI_1]; exact congrArg nI (by omega)) | simp only [nI_add, pk_mul, nI_1]) (by omega) (by decide) ?_
    refine AF.aload_n dX7_problemOf_136 rfl ?_
    refine AF.iconst (nI 1) dX7_problemOf_137 (by decide) ?_
    refine AF.iaload (1) dX7_problemOf_138 (by assumption) (by first | rfl | exact nI_1 _ | (simp only [nI_add, pk_mul, nI_1]; exact congrArg nI (by omega)) | simp only [nI_add, pk_mul, nI_1]) (by omega) (by decide) ?_
    rw [e1 (by rw [hl]; decide), e2 (by rw [hl]; decide)]
    refine AF.v1 dX7_problemOf_139 kv_X7_170 ((X7_problemOfPlaying_ok hS0 (ar ns 0) (ar ns 1))) (by assumption) rfl rfl rfl (Nat.le_of_ble_eq_true rfl) (by decide) rfl ?_
    exact AF.areturn dX7_problemOf_142 rfl (Or.inl ⟨_, rfl⟩) (Or.inr ⟨_, rfl⟩) ⟨rfl, rfl⟩
  · refine AF.switchIn 143 dX7_problemOf_8 (by decide) (by decide) rfl (by decide) ?_
    refine AF.aload_n dX7_problemOf_143 rfl ?_
    refine AF.aload_n dX7_problemOf_144 rfl ?_
    refine AF.iconst (nI 0) dX7_problemOf_145 (by decide) ?_
    refine AF.iaload (0) dX7_problemOf_146 (by assumption) (by first | rfl | exact nI_1 _ | (simp only [nI_add, pk_mul, nI_1]; exact congrArg nI (by omega)) | simp only [nI_add, pk_mul, nI_1]) (by omega) (by decide) ?_
    rw [e1 (by rw [hl]; decide)]
    refine AF.v1 dX7_problemOf_147 kv_X7_173 ((X7_problemOfPassing_ok (ar ns 0))) (by assumption) rfl rfl rfl (Nat.le_of_ble_eq_true rfl) (by decide) rfl ?_
    exact AF.areturn dX7_problemOf_150 rfl (Or.inl ⟨_, rfl⟩) (Or.inr ⟨_, rfl⟩) ⟨rfl, rfl⟩
set_option maxRecDepth 100000 in
set_option maxHeartbeats 8000000 in
theorem X7_carryOut_ok {B : Nat} (hS : SA G F b σ) (ha : gN G ≤ b) (hN : NS G F x ns) (hc : c < 9) (hl : ns.length = nlen c) (hQ : SQ σ B) (hB : B + 40 ≤ 2 ^ 21) (hp : pCm σ c (tdA c ns) = 0) : AC G mX7_carryOut 4 0 0 [.ref b, .ref (gk G (5 + c)), .ref x] F (SW G b (aCm σ c (tdA c ns)) none F) := by
  have hS0 := hS
  obtain ⟨ef, es, ⟨s0, s9, s10⟩, hE, hJ, hG⟩ := hS
  obtain ⟨-, -, ⟨j0, -⟩, -⟩ := id hJ
  obtain ⟨-, -, -, -, ⟨g0, -⟩, -⟩ := id hG
  obtain ⟨nf, n0, n1, n2⟩ := hN
  have e1 : 0 < ns.length → nf 0 = ar ns 0 := fun h => n2 0 h
  have e2 : 1 < ns.length → nf 1 = ar ns 1 := fun h => n2 1 h
  have e3 : 2 < ns.length → nf 2 = ar ns 2 := fun h => n2 2 h
  have e4 : 3 < ns.length → nf 3 = ar ns 3 := fun h => n2 3 h
  have hfr : Fr b (b + 11) F F := Fr.rf
  refine AC.of [some (.ref b), some (.ref (gk G (5 + c))), some (.ref x)] rfl (by decide) (Nat.le_of_ble_eq_true rfl) rfl (AF.ok fun hK => ?_)
  have hY := hK.2.2.2.2.2.2.1.2.2.2.2.1 c hc
  have hM := hK.2.2.2.2.2.2.1.2.2.2.2.2.1
  refine AF.getstatic dX7_carryOut_0 gs_X7_139 (hM.1) ?_
  refine AF.aload_n dX7_carryOut_3 rfl ?_
  refine AF.uc1 dX7_carryOut_4 ku_X7_144 (E_ordinal_ok hY.2.1) hY.1 rfl rfl (Nat.le_of_ble_eq_true rfl) (by decide) rfl ?_
  refine AF.ialoadT c dX7_carryOut_7 hM.2 rfl hc (by decide) rfl ?_
  rcases (by omega : c = 0 ∨ c = 1 ∨ c = 2 ∨ c = 3 ∨ c = 4 ∨ c = 5 ∨ c = 6 ∨ c = 7 ∨ c = 8) with rfl | rfl | rfl | rfl | rfl | rfl | rfl | rfl | rfl
  · refine AF.switchIn 60 dX7_carryOut_8 (by decide) (by decide) rfl (by decide) ?_
    obtain ⟨-, -, x1, x2⟩ := hQ.jet hp
    refine AF.aload_n dX7_carryOut_60 rfl ?_
    refine AF.getfield dX7_carryOut_61 fl_X7_12 (by assumption) rfl ?_
    refine AF.aload_n dX7_carryOut_64 rfl ?_
    refine AF.iconst (nI 0) dX7_carryOut_65 (by decide) ?_
    refine AF.iaload (0) dX7_carryOut_66 (by assumption) (by first | rfl | exact nI_1 _ | (simp only [nI_add, pk_mul, nI_1]; exact congrArg nI (by omega)) | simp only [nI_add, pk_mul, nI_1]) (by omega) (by decide) ?_
    rw [show nf 0 = _ from (e1 (by rw [hl]; decide)).trans x1]
    refine AF.vw dX7_carryOut_67 kv_X7_176 (X3_append_ok hJ (by omega) _ x2) (by assumption) rfl rfl rfl (Nat.le_of_ble_eq_true rfl) (by decide) rfl (fun E F9 q => nomatch q.1) (fun v F q => ?_)
    obtain ⟨q, hJ, q2⟩ := q
    cases q
    replace s0 := (q2.2 (b) (by omega)).trans s0
    replace s9 := (q2.2 (b + 9) (by omega)).trans s9
    replace s10 := (q2.2 (b + 10) (by omega)).trans s10
    replace hG := hG.fr q2 (by omega)
    replace hfr := hfr.trans q2 (by omega) (by omega)
    refine AF.pop dX7_carryOut_70 rfl ?_
    refine AF.goto 193 dX7_carryOut_71 (by decide) ?_
    exact AF.vreturn dX7_carryOut_193 rfl ⟨rfl, ⟨_, _, ⟨s0, s9, s10⟩, hE, hJ, hG⟩, hfr⟩
  · refine AF.switchIn 74 dX7_carryOut_8 (by decide) (by decide) rfl (by decide) ?_
    obtain ⟨-, x1, x2, -, x4⟩ := hQ.opn hp
    refine AF.aload_n dX7_carryOut_74 rfl ?_
    refine AF.getfield dX7_carryOut_75 fl_X7_12 (by assumption) rfl ?_
    refine AF.aload_n dX7_carryOut_78 rfl ?_
    refine AF.iconst (nI 0) dX7_carryOut_79 (by decide) ?_
    refine AF.iaload (0) dX7_carryOut_80 (by assumption) (by first | rfl | exact nI_1 _ | (simp only [nI_add, pk_mul, nI_1]; exact congrArg nI (by omega)) | simp only [nI_add, pk_mul, nI_1]) (by omega) (by decide) ?_
    refine AF.aload_n dX7_carryOut_81 rfl ?_
    refine AF.iconst (nI 1) dX7_carryOut_82 (by decide) ?_
    refine AF.iaload (1) dX7_carryOut_83 (by assumption) (by first | rfl | exact nI_1 _ | (simp only [nI_add, pk_mul, nI_1]; exact congrArg nI (by omega)) | simp only [nI_add, pk_mul, nI_1]) (by omega) (by decide) ?_
    rw [show nf 0 = _ from (e1 (by rw [hl]; decide)).trans x2, show nf 1 = _ from (e2 (by rw [hl]; decide)).trans x4]
    refine AF.vw dX7_carryOut_84 kv_X7_179 (X3_changeOpening_ok hJ (by omega) _ _ x1) (by assumption) rfl rfl rfl (Nat.le_of_ble_eq_true rfl) (by decide) rfl (fun E F9 q => nomatch q.1) (fun v F q => ?_)
    obtain ⟨q, hJ, q2⟩ := q
    cases q
    replace s0 := (q2.2 (b) (by omega)).trans s0
    replace s9 := (q2.2 (b + 9) (by omega)).trans s9
    replace s10 := (q2.2 (b + 10) (by omega)).trans s10
    replace hG := hG.fr q2 (by omega)
    replace hfr := hfr.trans q2 (by omega) (by omega)
    refine AF.pop dX7_carryOut_87 rfl ?_
    refine AF.goto 193 dX7_carryOut_88 (by decide) ?_
    exact AF.vreturn dX7_carryOut_193 rfl ⟨rfl, ⟨_, _, ⟨s0, s9, s10⟩, hE, hJ, hG⟩, hfr⟩
  · refine AF.switchIn 91 dX7_carryOut_8 (by decide) (by decide) rfl (by decide) ?_
    obtain ⟨-, -, x1⟩ := hQ.capq hp
    refine AF.aload_n dX7_carryOut_91 rfl ?_
    refine AF.getfield dX7_carryOut_92 fl_X7_12 (by assumption) rfl ?_
    refine AF.aload_n dX7_carryOut_95 rfl ?_
    refine AF.iconst (nI 0) dX7_carryOut_96 (by decide) ?_
    refine AF.iaload (0) dX7_carryOut_97 (by assumption) (by first | rfl | exact nI_1 _ | (simp only [nI_add, pk_mul, nI_1]; exact congrArg nI (by omega)) | simp only [nI_add, pk_mul, nI_1]) (by omega) (by decide) ?_
    rw [show nf 0 = _ from (e1 (by rw [hl]; decide)).trans x1]
    refine AF.vw dX7_carryOut_98 kv_X7_182 (X3_changeCapacity_ok hJ (by omega) _) (by assumption) rfl rfl rfl (Nat.le_of_ble_eq_true rfl) (by decide) rfl (fun E F9 q => nomatch q.1) (fun v F q => ?_)
    obtain ⟨q, hJ, q2⟩ := q
    cases q
    replace s0 := (q2.2 (b) (by omega)).trans s0
    replace s9 := (q2.2 (b + 9) (by omega)).trans s9
    replace s10 := (q2.2 (b + 10) (by omega)).trans s10
    replace hG := hG.fr q2 (by omega)
    replace hfr := hfr.trans q2 (by omega) (by omega)
    refine AF.pop dX7_carryOut_101 rfl ?_
    refine AF.goto 193 dX7_carryOut_102 (by decide) ?_
    exact AF.vreturn dX7_carryOut_193 rfl ⟨rfl, ⟨_, _, ⟨s0, s9, s10⟩, hE, hJ, hG⟩, hfr⟩
  · refine AF.switchIn 105 dX7_carryOut_8 (by decide) (by decide) rfl (by decide) ?_
    refine AF.aload_n dX7_carryOut_105 rfl ?_
    refine AF.getfield dX7_carryOut_106 fl_X7_12 (by assumption) rfl ?_
    refine AF.aload_n dX7_carryOut_109 rfl ?_
    refine AF.iconst (nI 0) dX7_carryOut_110 (by decide) ?_
    refine AF.iaload (0) dX7_carryOut_111 (by assumption) (by first | rfl | exact nI_1 _ | (simp only [nI_add, pk_mul, nI_1]; exact congrArg nI (by omega)) | simp only [nI_add, pk_mul, nI_1]) (by omega) (by decide) ?_
    refine AF.aload_n dX7_carryOut_112 rfl ?_
    refine AF.iconst (nI 1) dX7_carryOut_113 (by decide) ?_
    refine AF.iaload (1) dX7_carryOut_114 (by assumption) (by first | rfl | exact nI_1 _ | (simp only [nI_add, pk_mul, nI_1]; exact congrArg nI (by omega)) | simp only [nI_add, pk_mul, nI_1]) (by omega) (by decide) ?_
    refine AF.imul dX7_carryOut_115 ?_
    rw [show nf 0 = _ from e1 (by rw [hl]; decide), show nf 1 = _ from e2 (by rw [hl]; decide)]
    refine AF.vw dX7_carryOut_116 kv_X7_185 (X3_changeWind_ok hJ (by omega) _) (by assumption) rfl rfl rfl (Nat.le_of_ble_eq_true rfl) (by decide) rfl (fun E F9 q => nomatch q.1) (fun v F q => ?_)
    obtain ⟨q, hJ, q2⟩ := q
    cases q
    replace s0 := (q2.2 (b) (by omega)).trans s0
    replace s9 := (q2.2 (b + 9) (by omega)).trans s9
    replace s10 := (q2.2 (b + 10) (by omega)).trans s10
    replace hG := hG.fr q2 (by omega)
    replace hfr := hfr.trans q2 (by omega) (by omega)
    refine AF.pop dX7_carryOut_119 rfl ?_
    refine AF.goto 193 dX7_carryOut_120 (by decide) ?_
    exact AF.vreturn dX7_carryOut_193 rfl ⟨rfl, ⟨_, _, ⟨s0, s9, s10⟩, hE, hJ, hG⟩, hfr⟩
  · refine AF.switchIn 123 dX7_carryOut_8 (by decide) (by decide) rfl (by decide) ?_
    refine AF.aload_n dX7_carryOut_123 rfl ?_
    refine AF.getfield dX7_carryOut_124 fl_X7_12 (by assumption) rfl ?_
    refine AF.vw dX7_carryOut_127 kv_X7_188 (X3_closeWildJets_ok hJ (by omega) hQ.1.1 (hQ.1.2.1)) (by assumption) rfl rfl rfl (Nat.le_of_ble_eq_true rfl) (by decide) rfl (fun E F9 q => nomatch q.1) (fun v F q => ?_)
    obtain ⟨q, hJ, q2⟩ := q
    cases q
    replace s0 := (q2.2 (b) (by omega)).trans s0
    replace s9 := (q2.2 (b + 9) (by omega)).trans s9
    replace s10 := (q2.2 (b + 10) (by omega)).trans s10
    replace hG := hG.fr q2 (by omega)
    replace hfr := hfr.trans q2 (by omega) (by omega)
    refine AF.pop dX7_carryOut_130 rfl ?_
    refine AF.goto 193 dX7_carryOut_131 (by decide) ?_
    exact AF.vreturn dX7_carryOut_193 rfl ⟨rfl, ⟨_, _, ⟨s0, s9, s10⟩, hE, hJ, hG⟩, hfr⟩
  · refine AF.switchIn 134 dX7_carryOut_8 (by decide) (by decide) rfl (by decide) ?_
    have x1 : σ.Fg.length < 5 := by
      have hp : (if σ.Fg.length < 5 then 0 else 4) = 0 := hp
      split at hp
      · assumption
      · cases hp
    refine AF.aload_n dX7_carryOut_134 rfl ?_
    refine AF.getfield dX7_carryOut_135 fl_X7_21 (by assumption) rfl ?_
    refine AF.vw dX7_carryOut_138 kv_X7_191 (X2_append_ok hG (by omega) x1) (by assumption) rfl rfl rfl (Nat.le_of_ble_eq_true rfl) (by decide) rfl (fun E F9 q => nomatch q.1) (fun v F q => ?_)
    obtain ⟨q, hG, q2⟩ := q
    cases q
    replace s0 := (q2.2 (b) (by omega)).trans s0
    replace s9 := (q2.2 (b + 9) (by omega)).trans s9
    replace s10 := (q2.2 (b + 10) (by omega)).trans s10
    replace hJ := hJ.fr q2 (by omega)
    replace hfr := hfr.trans q2 (by omega) (by omega)
    refine AF.pop dX7_carryOut_141 rfl ?_
    refine AF.goto 193 dX7_carryOut_142 (by decide) ?_
    exact AF.vreturn dX7_carryOut_193 rfl ⟨rfl, ⟨_, _, ⟨s0, s9, s10⟩, hE, hJ, hG⟩, hfr⟩
  · refine AF.switchIn 145 dX7_carryOut_8 (by decide) (by decide) rfl (by decide) ?_
    obtain ⟨-, ⟨x1, y1⟩, ⟨-, y2⟩, ⟨-, y3⟩, ⟨-, y4⟩, x2⟩ := hQ.stp hp
    refine AF.aload_n dX7_carryOut_145 rfl ?_
    refine AF.getfield dX7_carryOut_146 fl_X7_21 (by assumption) rfl ?_
    refine AF.aload_n dX7_carryOut_149 rfl ?_
    refine AF.iconst (nI 0) dX7_carryOut_150 (by decide) ?_
    refine AF.iaload (0) dX7_carryOut_151 (by assumption) (by first | rfl | exact nI_1 _ | (simp only [nI_add, pk_mul, nI_1]; exact congrArg nI (by omega)) | simp only [nI_add, pk_mul, nI_1]) (by omega) (by decide) ?_
    refine AF.aload_n dX7_carryOut_152 rfl ?_
    refine AF.iconst (nI 1) dX7_carryOut_153 (by decide) ?_
    refine AF.iaload (1) dX7_carryOut_154 (by assumption) (by first | rfl | exact nI_1 _ | (simp only [nI_add, pk_mul, nI_1]; exact congrArg nI (by omega)) | simp only [nI_add, pk_mul, nI_1]) (by omega) (by decide) ?_
    refine AF.aload_n dX7_carryOut_155 rfl ?_
    refine AF.iconst (nI 2) dX7_carryOut_156 (by decide) ?_
    refine AF.iaload (2) dX7_carryOut_157 (by assumption) (by first | rfl | exact nI_1 _ | (simp only [nI_add, pk_mul, nI_1]; exact congrArg nI (by omega)) | simp only [nI_add, pk_mul, nI_1]) (by omega) (by decide) ?_
    refine AF.aload_n dX7_carryOut_158 rfl ?_
    refine AF.iconst (nI 3) dX7_carryOut_159 (by decide) ?_
    refine AF.iaload (3) dX7_carryOut_160 (by assumption) (by first | rfl | exact nI_1 _ | (simp only [nI_add, pk_mul, nI_1]; exact congrArg nI (by omega)) | simp only [nI_add, pk_mul, nI_1]) (by omega) (by decide) ?_
    rw [show nf 0 = _ from (e1 (by rw [hl]; decide)).trans y1, show nf 1 = _ from (e2 (by rw [hl]; decide)).trans y2, show nf 2 = _ from (e3 (by rw [hl]; decide)).trans y3, show nf 3 = _ from (e4 (by rw [hl]; decide)).trans y4]
    refine AF.vw dX7_carryOut_161 kv_X7_193 (X2_appendStep_ok hG (by omega) _ _ _ _ x1 x2) (by assumption) rfl rfl rfl (Nat.le_of_ble_eq_true rfl) (by decide) rfl (fun E F9 q => nomatch q.1) (fun v F q => ?_)
    obtain ⟨q, hG, q2⟩ := q
    cases q
    replace s0 := (q2.2 (b) (by omega)).trans s0
    replace s9 := (q2.2 (b + 9) (by omega)).trans s9
    replace s10 := (q2.2 (b + 10) (by omega)).trans s10
    replace hJ := hJ.fr q2 (by omega)
    replace hfr := hfr.trans q2 (by omega) (by omega)
    refine AF.pop dX7_carryOut_164 rfl ?_
    refine AF.goto 193 dX7_carryOut_165 (by decide) ?_
    exact AF.vreturn dX7_carryOut_193 rfl ⟨rfl, ⟨_, _, ⟨s0, s9, s10⟩, hE, hJ, hG⟩, hfr⟩
  · refine AF.switchIn 168 dX7_carryOut_8 (by decide) (by decide) rfl (by decide) ?_
    obtain ⟨-, ⟨-, y1⟩, ⟨-, -, y2⟩, x1⟩ := hQ.ply hp
    refine AF.aload_n dX7_carryOut_168 rfl ?_
    refine AF.aload_n dX7_carryOut_169 rfl ?_
    refine AF.iconst (nI 0) dX7_carryOut_170 (by decide) ?_
    refine AF.iaload (0) dX7_carryOut_171 (by assumption) (by first | rfl | exact nI_1 _ | (simp only [nI_add, pk_mul, nI_1]; exact congrArg nI (by omega)) | simp only [nI_add, pk_mul, nI_1]) (by omega) (by decide) ?_
    refine AF.aload_n dX7_carryOut_172 rfl ?_
    refine AF.iconst (nI 1) dX7_carryOut_173 (by decide) ?_
    refine AF.iaload (1) dX7_carryOut_174 (by assumption) (by first | rfl | exact nI_1 _ | (simp only [nI_add, pk_mul, nI_1]; exact congrArg nI (by omega)) | simp only [nI_add, pk_mul, nI_1]) (by omega) (by decide) ?_
    rw [show nf 0 = _ from (e1 (by rw [hl]; decide)).trans y1, show nf 1 = _ from (e2 (by rw [hl]; decide)).trans y2]
    refine AF.vw dX7_carryOut_175 kv_X7_197 (X7_appendEntry_ok hS0 ha _ _ x1) (by assumption) rfl rfl rfl (Nat.le_of_ble_eq_true rfl) (by decide) rfl (fun E F9 q => nomatch q.1) (fun v F q => ?_)
    obtain ⟨q, hS2, q2⟩ := q
    cases q
    refine AF.pop dX7_carryOut_178 rfl ?_
    refine AF.goto 193 dX7_carryOut_179 (by decide) ?_
    exact AF.vreturn dX7_carryOut_193 rfl ⟨rfl, hS2, q2⟩
  · refine AF.switchIn 182 dX7_carryOut_8 (by decide) (by decide) rfl (by decide) ?_
    obtain ⟨y1, y2, y3⟩ := pPas_0 hp
    refine AF.aload_n dX7_carryOut_182 rfl ?_
    refine AF.aload_n dX7_carryOut_183 rfl ?_
    refine AF.iconst (nI 0) dX7_carryOut_184 (by decide) ?_
    refine AF.iaload (0) dX7_carryOut_185 (by assumption) (by first | rfl | exact nI_1 _ | (simp only [nI_add, pk_mul, nI_1]; exact congrArg nI (by omega)) | simp only [nI_add, pk_mul, nI_1]) (by omega) (by decide) ?_
    rw [show nf 0 = _ from (e1 (by rw [hl]; decide)).trans y3]
    refine AF.vw dX7_carryOut_186 kv_X7_200 (X7_passBeats_ok hS0 ha hQ.1 _ (by show B + cl (ar ns 0) ≤ 2 ^ 21; have y2 : cl (ar ns 0) ≤ 40 := y2; omega)) (by assumption) rfl rfl rfl (Nat.le_of_ble_eq_true rfl) (by decide) rfl (fun E F9 q => nomatch q.1) (fun v F q => ?_)
    obtain ⟨q, hS2, q2⟩ := q
    cases q
    refine AF.pop dX7_carryOut_189 rfl ?_
    refine AF.goto 193 dX7_carryOut_190 (by decide) ?_
    exact AF.vreturn dX7_carryOut_193 rfl ⟨rfl, hS2, q2⟩
end

