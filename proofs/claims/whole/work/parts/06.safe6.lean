def SPX9_stepped (S : mSp) : Prop := ∀ (n e : Int) (f0 f : mFn) (g : mGn) (K : mKr), n + 2 ≤ 300000000 → rI n e f0 f g → (∀ (y : Int32) (f' : mFn) (g' : mGn), rI (n + 2) e f0 f' g' → K (some (.inl y)) f' g') → S [.inr 0] f g K
-- by hand: loop
theorem sfX9_stepped : SPX9_stepped spX9_stepped := by
  sorry
def SPX9_pass (S : mSp) : Prop := ∀ (n e : Int) (f0 f : mFn) (g : mGn) (K : mKr) (x1 : Int32), n + 4 ≤ 300000000 → rI n e f0 f g → (∀ (y : Int32) (f' : mFn) (g' : mGn), rI (n + 4) e f0 f' g' → K (some (.inl y)) f' g') → S [.inr 0, .inl x1] f g K
-- by hand: loop
theorem sfX9_pass : SPX9_pass spX9_pass := by
  sorry
def SPX9_pins (S : mSp) : Prop := ∀ (n e : Int) (f0 f : mFn) (g : mGn) (K : mKr) (x1 : Int32), rI n e f0 f g → (∀ (y : Int32) (f' : mFn) (g' : mGn), rg 0 255 y → rI n e f0 f' g' → K (some (.inl y)) f' g') → S [.inr 0, .inl x1] f g K
-- by hand: writes counted scalar 8
theorem sfX9_pins : SPX9_pins spX9_pins := by
  sorry
def SPX9_power (S : mSp) : Prop := ∀ (n e : Int) (f0 f : mFn) (g : mGn) (K : mKr) (x1 : Int32), rg 0 1 x1 → rI n e f0 f g → (∀ (y : Int32) (f' : mFn) (g' : mGn), rg 0 1 y → rI n e f0 f' g' → K (some (.inl y)) f' g') → S [.inr 0, .inl x1] f g K
-- by hand: writes counted scalar 9
theorem sfX9_power : SPX9_power spX9_power := by
  sorry
def SPX9_put (S : mSp) : Prop := ∀ (n e : Int) (f0 f : mFn) (g : mGn) (K : mKr) (x1 : Int32) (x2 : Int32), rI n e f0 f g → (∀ (f' : mFn) (g' : mGn), rI n e f0 f' g' → K none f' g') → S [.inr 0, .inl x1, .inl x2] f g K
-- by hand: index -2147483648..2147483647 of 1280 at 58
theorem sfX9_put : SPX9_put spX9_put := by
  sorry
def SPX9_reset (S : mSp) : Prop := ∀ (n e : Int) (f0 f : mFn) (g : mGn) (K : mKr), rI n e f0 f g → (∀ (f' : mFn) (g' : mGn), rI n e f0 f' g' → K none f' g') → S [.inr 0] f g K
set_option maxRecDepth 100000 in
set_option maxHeartbeats 4000000 in
theorem sfX9_reset : SPX9_reset spX9_reset := by
  intro n e f0 f g K   hI hK
  refine ⟨rfl, fun X hX => ?_⟩
  obtain ⟨S_X9_restart, k_X9_restart, hX⟩ : ∃ S_X9_restart, SPX9_restart S_X9_restart ∧ mR shM fdX9_reset [(56, 0, 1, 12, S_X9_restart)] bsX9_reset (fun r f g => mRt none r ∧ K r f g) X := ⟨spX9_restart, sfX9_restart, hX⟩
  have b17 : ∀ (f : mFn) (g : mGn), rI n e f0 f g → X 17 [] [] f g := by
    intro  f g  hI
    refine hX.1 1 _ rfl _ _ _ _ ?_
    exact And.intro mRt_v (hK _ _ hI)
  refine hX.1 0 _ rfl _ _ _ _ ?_
  refine And.intro (fun c7 => ?_) (fun c7 => ?_)
  · -- 17
    exact hX.2 _ _ [] _ _ _ mW0 (b17  _ _  (rP1 0 (rg_w (c := 0) (d := 1) (rg_c (a := 0) (b := 0) (by decide +kernel)) (by decide +kernel)) hI (by decide +kernel)))
  · -- on
    refine k_X9_restart n _ f0 _ _ _ _ (rg_w (c := 1) (d := 8) (rg_c (a := 2) (b := 2) (by decide +kernel)) (by decide +kernel)) (rP1 0 (rg_w (c := 0) (d := 1) (rg_c (a := 0) (b := 0) (by decide +kernel)) (by decide +kernel)) hI (by decide +kernel)) (fun f9 gf9 hI10 => ?_)
    exact hX.2 _ _ [] _ _ _ mW0 (b17  _ _  hI10)
def SPX9_run (S : mSp) : Prop := ∀ (n e : Int) (f0 f : mFn) (g : mGn) (K : mKr) (x1 : Int32), n + 4 ≤ 300000000 → rI n e f0 f g → (∀ (y : Int32) (f' : mFn) (g' : mGn), rI (n + 4) e f0 f' g' → K (some (.inl y)) f' g') → S [.inr 0, .inl x1] f g K
-- by hand: loop
theorem sfX9_run : SPX9_run spX9_run := by
  sorry
def SPX9_sent (S : mSp) : Prop := ∀ (n e : Int) (f0 f : mFn) (g : mGn) (K : mKr), rI n e f0 f g → (∀ (y : Int32) (f' : mFn) (g' : mGn), rg 0 2147483647 y → rI n e f0 f' g' → K (some (.inl y)) f' g') → S [.inr 0] f g K
set_option maxRecDepth 100000 in
set_option maxHeartbeats 4000000 in
theorem sfX9_sent : SPX9_sent spX9_sent := by
  intro n e f0 f g K   hI hK
  refine ⟨rfl, fun X hX => ?_⟩
  refine hX.1 0 _ rfl _ _ _ _ ?_
  exact And.intro mRt_i (hK _ _ _ (rg_w (c := 0) (d := 2147483647) (gI_s (rP1 0 (rg_w (c := 0) (d := 1) (rg_c (a := 0) (b := 0) (by decide +kernel)) (by decide +kernel)) hI (by decide +kernel)) 13 36 0 2147483647 rfl) (by decide +kernel)) (rP1 0 (rg_w (c := 0) (d := 1) (rg_c (a := 0) (b := 0) (by decide +kernel)) (by decide +kernel)) hI (by decide +kernel)))
def SPX9_start (S : mSp) : Prop := ∀ (n e : Int) (f0 f : mFn) (g : mGn) (K : mKr) (x1 : Int32), rI n e f0 f g → (∀ (f' : mFn) (g' : mGn), rI n e f0 f' g' → K none f' g') → S [.inr 0, .inl x1] f g K
-- by hand: scalar 12 of -2147483648..2147483647
theorem sfX9_start : SPX9_start spX9_start := by
  sorry
def SPX9_step (S : mSp) : Prop := ∀ (n e : Int) (f0 f : mFn) (g : mGn) (K : mKr), n + 2 ≤ 300000000 → rI n e f0 f g → (∀ (y : Int32) (f' : mFn) (g' : mGn), rI (n + 2) e f0 f' g' → K (some (.inl y)) f' g') → S [.inr 0] f g K
set_option maxRecDepth 100000 in
set_option maxHeartbeats 4000000 in
theorem sfX9_step : SPX9_step spX9_step := by
  intro n e f0 f g K   hB hI hK
  refine ⟨rfl, fun X hX => ?_⟩
  obtain ⟨S_X9_stepped, k_X9_stepped, hX⟩ : ∃ S_X9_stepped, SPX9_stepped S_X9_stepped ∧ mR shM fdX9_step [(356, 0, 0, 12, S_X9_stepped)] bsX9_step (fun r f g => mRt (some .int) r ∧ K r f g) X := ⟨spX9_stepped, sfX9_stepped, hX⟩
  have b20 : ∀ (s0 : Int32) (f : mFn) (g : mGn), rI (n + 2) e f0 f g → X 20 [] [.inl s0] f g := by
    intro s0 f g  hI
    refine hX.1 2 _ rfl _ _ _ _ ?_
    exact And.intro mRt_i (hK _ _ _ hI)
  refine hX.1 0 _ rfl _ _ _ _ ?_
  refine And.intro (fun c7 => ?_) (fun c7 => ?_)
  · -- 19
    refine hX.1 1 _ rfl _ _ _ _ ?_
    exact hX.2 _ _ [] _ _ _ mW0 (b20 _ _ _  (rM (rP1 0 (rg_w (c := 0) (d := 1) (rg_c (a := 0) (b := 0) (by decide +kernel)) (by decide +kernel)) hI (by decide +kernel)) (by omega) (by omega)))
  · -- on
    refine k_X9_stepped n _ f0 _ _ _   (by omega) (rP1 0 (rg_w (c := 0) (d := 1) (rg_c (a := 0) (b := 0) (by decide +kernel)) (by decide +kernel)) hI (by decide +kernel)) (fun y8 f9 gf9 hI10 => ?_)
    exact hX.2 _ _ [] _ _ _ mW0 (b20 _ _ _  hI10)
def SPX9_thrown (S : mSp) : Prop := ∀ (n e : Int) (f0 f : mFn) (g : mGn) (K : mKr), rI n e f0 f g → (∀ (y : Int32), rg 0 1 y → K (some (.inl y)) f g) → S [.inr 0] f g K
set_option maxRecDepth 100000 in
set_option maxHeartbeats 4000000 in
theorem sfX9_thrown : SPX9_thrown spX9_thrown := by
  intro n e f0 f g K   hI hK
  refine ⟨rfl, fun X hX => ?_⟩
  refine hX.1 0 _ rfl _ _ _ _ ?_
  exact And.intro mRt_i (hK _ (rg_w (c := 0) (d := 1) (gI_s hI 0 0 0 1 rfl) (by decide +kernel)) )
def SPX9_word (S : mSp) : Prop := ∀ (n e : Int) (f0 f : mFn) (g : mGn) (K : mKr) (x1 : Int32), rI n e f0 f g → (∀ (y : Int32) (f' : mFn) (g' : mGn), rg 0 65535 y → rI n e f0 f' g' → K (some (.inl y)) f' g') → S [.inr 0, .inl x1] f g K
-- by hand: index -2147483648..2147483647 of 2048 at 28
theorem sfX9_word : SPX9_word spX9_word := by
  sorry

