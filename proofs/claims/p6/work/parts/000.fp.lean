/-! doubles: the quotient of two whole numbers is no NaN (first of all, so that the round reads over the whole library from its beginning) -/
theorem jt_notNaN (a b : Int64) (h : ¬ b = 0) : FP.Core.dIsNaN (FP.Core.ddiv (FP.Core.l2d a) (FP.Core.l2d b)) = false := by
  refine FP.Core.not_true (FP.Core.ddiv_nan_iff _ _) ?_
  rintro (h1 | h1 | ⟨s, t, h1, _⟩ | ⟨_, h2⟩)
  · exact (FP.Core.l2d_fin a).ne_nan h1
  · exact (FP.Core.l2d_fin b).ne_nan h1
  · exact (FP.Core.l2d_fin a).ne_inf _ h1
  · exact FP.Core.l2d_ne_zero h ((FP.Core.zero_bits2 _).mp h2)
