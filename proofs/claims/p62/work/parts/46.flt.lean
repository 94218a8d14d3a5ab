/-! The two quotients are numbers. -/
theorem flt_d : ∀ n, n < 11 → ∀ d, d < 101 → 0 < n → vf_n64 (FP.ddiv (FP.i2d (nI d)) (FP.i2d (nI n))) ∧ Op.cmpValue (FP.dcmp (FP.ddiv (FP.i2d (nI d)) (FP.i2d (nI n))) (FP.ddiv (FP.i2d (nI d)) (FP.i2d (nI n)))) .l = 0 := by
  unfold vf_n64
  decide +kernel
theorem flt_f : ∀ d, d < 101 → ∀ s, s < d + 1 → 0 < d → vf_n32 (FP.fdiv (FP.i2f (nI s)) (FP.i2f (nI d))) ∧ vf_n64 (FP.f2d (FP.fdiv (FP.i2f (nI s)) (FP.i2f (nI d)))) ∧ Op.cmpValue (FP.dcmp (FP.f2d (FP.fdiv (FP.i2f (nI s)) (FP.i2f (nI d)))) (FP.f2d (FP.fdiv (FP.i2f (nI s)) (FP.i2f (nI d))))) .l = 0 := by
  unfold vf_n64 vf_n32
  decide +kernel

