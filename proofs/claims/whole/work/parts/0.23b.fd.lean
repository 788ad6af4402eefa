/-! Quotients of small counts are numbers. -/
set_option maxRecDepth 20000 in
theorem fd_n32 : ∀ a : Fin 145, ∀ b : Fin 145, b.val = 0 ∨ (vf_n32 (FP.fdiv (FP.i2f (iI (a.val : Int))) (FP.i2f (iI (b.val : Int)))) ∧ vf_n64 (FP.f2d (FP.fdiv (FP.i2f (iI (a.val : Int))) (FP.i2f (iI (b.val : Int)))))) := by
  sorry
