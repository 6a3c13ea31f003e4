/-! words: each method of a world has its own code and the world's one list -/
theorem mGoodIn {WC ws : List Jvm.Cond} {c0 : Jvm.Cond} (hg : WC.all goodWord = true) (h : ∀ w ∈ ws, w ∈ WC) : GoodIn (c0 :: WC) ws :=
  goodIn_sub (fun w hw => List.mem_cons_of_mem _ (h w hw)) (List.all_eq_true.mpr fun w hw => List.all_eq_true.mp hg w (h w hw))
theorem mGoodV {WC : List Jvm.Cond} {c0 cy : Jvm.Cond} {own C : String} {idx : Nat} {y : MethodName} (hg : WC.all goodWord = true) (h1 : Jvm.Cond.methodLink own idx y ∈ WC) (h2 : Jvm.Cond.instanceMethod y ∈ WC) (h3 : Jvm.Cond.selects C y y ∈ WC) (h4 : Jvm.Cond.initialized C ∈ WC) (h5 : cy ∈ WC) : GoodIn (c0 :: WC) (wsV own idx C y (cy :: WC)) :=
  mGoodIn hg fun w hw => by
    unfold wsV at hw
    simp only [List.cons_append, List.nil_append, List.mem_cons] at hw
    rcases hw with rfl | rfl | rfl | rfl | rfl | hw
    · exact h1
    · exact h2
    · exact h3
    · exact h4
    · exact h5
    · exact hw
theorem mGoodS {WC : List Jvm.Cond} {c0 cy : Jvm.Cond} {own : String} {idx : Nat} {y : MethodName} (hg : WC.all goodWord = true) (h1 : Jvm.Cond.methodLink own idx y ∈ WC) (h2 : Jvm.Cond.static y ∈ WC) (h3 : Jvm.Cond.initialized y.cls ∈ WC) (h5 : cy ∈ WC) : GoodIn (c0 :: WC) (va_wsS own idx y (cy :: WC)) :=
  mGoodIn hg fun w hw => by
    unfold va_wsS at hw
    simp only [List.cons_append, List.nil_append, List.mem_cons] at hw
    rcases hw with rfl | rfl | rfl | rfl | hw
    · exact h1
    · exact h2
    · exact h3
    · exact h5
    · exact hw
theorem mIn {c0 w : Jvm.Cond} {WC : List Jvm.Cond} (h : w ∈ WC) : w ∈ c0 :: WC := List.mem_cons_of_mem _ h
theorem mAt {w : Jvm.Cond} {W1 W0 : List Jvm.Cond} {i : Nat} (h : W0[i]? = some w) : w ∈ W1 ++ W0 := List.mem_append_right _ (List.mem_of_getElem? h)
