theorem t_tick (f : mFn) (g : mGn) (K : mKr) (h : ∀ g', K none f g') : spX6_tick [.inr 4] f g K := by
  refine ⟨rfl, fun X hX => ?_⟩
  refine hX 0 _ rfl _ _ _ _ ?_
  simp only [mB, mS, mAr, mLr, mLd, mGet, mGf, mSc, mSa, mI1, mI2, mI3, mJ1, mSet, mCdT, mCdF, fdX6_tick, shC]
  trace_state
  sorry
