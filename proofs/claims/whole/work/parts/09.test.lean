def inB (i : Int32) (n : Nat) : Bool := decide (0 ≤ i.toInt) && decide (i.toInt < (n : Int))
theorem inC {i : Int32} {n : Nat} (h : inB i n = true) : vp_in i n := by
  simp only [inB, Bool.and_eq_true, decide_eq_true_eq] at h
  exact vp_in_iff.mpr h
theorem t_tick (f : mFn) (g : mGn) (K : mKr) (h : ∀ g', K none f g') : spX6_tick [.inr 4] f g K := by
  refine ⟨rfl, fun X hX => ?_⟩
  have h3 : ∀ x g, X 89 [(1, .inl x), (0, .inr 4)] [] f g := by
    intro x g
    refine hX 3 _ rfl _ _ _ _ ?_
    exact And.intro rfl (h _)
  have h2 : ∀ x g, X 59 [(1, .inl x), (0, .inr 4)] [] f g := by
    intro x g
    refine hX 2 _ rfl _ _ _ _ ?_
    refine And.intro (inC (by decide +kernel)) ?_
    refine And.intro (inC (by decide +kernel)) ?_
    refine And.intro (fun h1 => h3 _ _) (fun h1 => ?_)
    refine And.intro (inC (by decide +kernel)) ?_
    refine And.intro (inC (by decide +kernel)) ?_
    exact h3 _ _
  have h1 : ∀ x g, X 36 [(1, .inl x), (0, .inr 4)] [] f g := by
    intro x g
    refine hX 1 _ rfl _ _ _ _ ?_
    refine And.intro (fun h1 => h2 _ _) (fun h1 => ?_)
    refine And.intro (inC (by decide +kernel)) ?_
    refine And.intro (inC (by decide +kernel)) ?_
    exact h2 _ _
  refine hX 0 _ rfl _ _ _ _ ?_
  refine And.intro (inC (by decide +kernel)) ?_
  refine And.intro (inC (by decide +kernel)) ?_
  refine And.intro (fun h5 => h1 _ _) (fun h5 => ?_)
  refine And.intro (inC (by decide +kernel)) ?_
  refine And.intro (fun h6 => h1 _ _) (fun h6 => ?_)
  exact h2 _ _
