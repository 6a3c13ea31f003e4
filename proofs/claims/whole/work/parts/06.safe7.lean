def SPX9_passes (S : mSp) : Prop := ∀ (n e : Int) (f0 f : mFn) (g : mGn) (K : mKr), rI n e f0 f g → (∀ (y : Int32) (f' : mFn) (g' : mGn), rg 0 1 y → rI n e f0 f' g' → K (some (.inl y)) f' g') → S [.inr 0] f g K
set_option maxRecDepth 100000 in
set_option maxHeartbeats 4000000 in
theorem sfX9_passes : SPX9_passes spX9_passes := by
  intro n e f0 f g K   hI hK
  refine ⟨rfl, fun X hX => ?_⟩
  obtain ⟨S_X9_windows, k_X9_windows, S_X9_timer, k_X9_timer, S_X9_line, k_X9_line, S_X9_dog, k_X9_dog, hX⟩ : ∃ S_X9_windows, SPX9_windows S_X9_windows ∧ ∃ S_X9_timer, SPX9_timer S_X9_timer ∧ ∃ S_X9_line, SPX9_line S_X9_line ∧ ∃ S_X9_dog, SPX9_dog S_X9_dog ∧ mR shM fdX9_passes [(182, 0, 0, 12, S_X9_windows), (185, 0, 0, 12, S_X9_timer), (188, 0, 0, 12, S_X9_line), (191, 0, 0, 12, S_X9_dog)] bsX9_passes (fun r f g => mRt (some .boolean) r ∧ K r f g) X := ⟨spX9_windows, sfX9_windows, spX9_timer, sfX9_timer, spX9_line, sfX9_line, spX9_dog, sfX9_dog, hX⟩
  have b59 : ∀ (f : mFn) (g : mGn), rI n e f0 f g → X 59 [(0, .inr 0)] [] f g := by
    intro f g  hI
    refine hX.1 1 _ rfl _ _ _ _ ?_
    refine k_X9_dog n e f0 _ _ _  hI (fun y18 f19 gf19 hy18 hI20 => ?_)
    exact And.intro (mRt_z (rg_01 hy18 (by decide +kernel))) (hK _ _ _ (rg_w (c := 0) (d := 1) hy18 (by decide +kernel)) hI20)
  refine hX.1 0 _ rfl _ _ _ _ ?_
  refine k_X9_windows n e f0 _ _ _  (rP0 hI (by decide +kernel)) (fun f23 gf23 hI24 => ?_)
  refine k_X9_timer n e f0 _ _ _  hI24 (fun f26 gf26 hI27 => ?_)
  refine k_X9_line n e f0 _ _ _  hI27 (fun f29 gf29 hI30 => ?_)
  refine And.intro (fun c31 => ?_) (fun c31 => ?_)
  · -- 59
    exact hX.2 _ _ [(0, .inr 0)] _ _ _ (mWc rfl mW0) (b59  _ _  hI30)
  · -- on
    refine And.intro (fun c33 => ?_) (fun c33 => ?_)
    · -- 59
      exact hX.2 _ _ [(0, .inr 0)] _ _ _ (mWc rfl mW0) (b59  _ _  (rP0 hI30 (by decide +kernel)))
    · -- on
      refine And.intro (rg_in (rg_c (a := 63) (b := 63) (by decide +kernel)) (by decide +kernel)) ?_
      refine And.intro (rg_in (rg_c (a := 63) (b := 63) (by decide +kernel)) (by decide +kernel)) ?_
      exact hX.2 _ _ [(0, .inr 0)] _ _ _ (mWc rfl mW0) (b59  _ _  (gI_a1 (rP0 hI30 (by decide +kernel)) 2 1280 (lo := 0) (hi := 255) (rg_w (c := 0) (d := 255) (show rg 0 253 _ from (rg_andR (rg_c (a := 253) (b := 253) (by decide +kernel)) (by decide +kernel))) (by decide +kernel)) (by decide +kernel)))
def SPX9_stepped (S : mSp) : Prop := ∀ (n e : Int) (f0 f : mFn) (g : mGn) (K : mKr), n + 2 ≤ 300000000 → rI n 8000 f0 f g → (∀ (y : Int32) (f' : mFn) (g' : mGn), rI (n + 2) 8000 f0 f' g' → K (some (.inl y)) f' g') → S [.inr 0] f g K
-- by hand: loop
theorem sfX9_stepped : SPX9_stepped spX9_stepped := by
  sorry
def SPX9_pass (S : mSp) : Prop := ∀ (n e : Int) (f0 f : mFn) (g : mGn) (K : mKr) (x1 : Int32), n + 4 ≤ 300000000 → rI n 8000 f0 f g → (∀ (y : Int32) (f' : mFn) (g' : mGn), rI (n + 4) 8000 f0 f' g' → K (some (.inl y)) f' g') → S [.inr 0, .inl x1] f g K
-- by hand: loop
theorem sfX9_pass : SPX9_pass spX9_pass := by
  sorry
def SPX9_pins (S : mSp) : Prop := ∀ (n e : Int) (f0 f : mFn) (g : mGn) (K : mKr) (x1 : Int32), rI n e f0 f g → (∀ (y : Int32) (f' : mFn) (g' : mGn), rg 0 255 y → rI n e f0 f' g' → K (some (.inl y)) f' g') → S [.inr 0, .inl x1] f g K
-- by hand: writes counted scalar 8
theorem sfX9_pins : SPX9_pins spX9_pins := by
  sorry
def SPX9_power (S : mSp) : Prop := ∀ (n e : Int) (f0 f : mFn) (g : mGn) (K : mKr) (x1 : Int32), rg 0 1 x1 → rI n e f0 f g → (∀ (y : Int32) (f' : mFn) (g' : mGn), rg 0 1 y → rI n e f0 f' g' → K (some (.inl y)) f' g') → S [.inr 0, .inl x1] f g K
-- by hand: writes counted scalar 9
theorem sfX9_power : SPX9_power spX9_power := by
  sorry
def SPX9_put (S : mSp) : Prop := ∀ (n e : Int) (f0 f : mFn) (g : mGn) (K : mKr) (x1 : Int32) (x2 : Int32), rI n e f0 f g → (∀ (f' : mFn) (g' : mGn), rI n e f0 f' g' → K none f' g') → S [.inr 0, .inl x1, .inl x2] f g K
set_option maxRecDepth 100000 in
set_option maxHeartbeats 4000000 in
theorem sfX9_put : SPX9_put spX9_put := by
  intro n e f0 f g K x1 x2  hI hK
  refine ⟨rfl, fun X hX => ?_⟩
  obtain ⟨S_X9_right, k_X9_right, hX⟩ : ∃ S_X9_right, SPX9_right S_X9_right ∧ mR shM fdX9_put [(359, 0, 1, 12, S_X9_right)] bsX9_put (fun r f g => mRt none r ∧ K r f g) X := ⟨spX9_right, sfX9_right, hX⟩
  refine hX.1 0 _ rfl _ _ _ _ ?_
  refine And.intro (fun c41 => ?_) (fun c41 => ?_)
  · -- 11
    refine hX.1 1 _ rfl _ _ _ _ ?_
    refine And.intro (fun c42 => ?_) (fun c42 => ?_)
    · -- 23
      refine hX.1 2 _ rfl _ _ _ _ ?_
      refine And.intro (fun c43 => ?_) (fun c43 => ?_)
      · -- 41
        refine hX.1 4 _ rfl _ _ _ _ ?_
        refine hX.1 5 _ rfl _ _ _ _ ?_
        refine k_X9_right n e f0 _ _ _ _ (rg_w (c := 0) (d := 1) (rg_c (a := 0) (b := 0) (by decide +kernel)) (by decide +kernel)) hI (fun f45 gf45 hI46 => ?_)
        refine And.intro (fun c47 => ?_) (fun c47 => ?_)
        · -- 59
          refine hX.1 6 _ rfl _ _ _ _ ?_
          exact And.intro mRt_v (hK _ _ hI46)
        · -- on
          exact (rg_no (show rg 1 0 _ from (rg_neN (rg_c (a := 0) (b := 0) (by decide +kernel)) (rg_c (a := 0) (b := 0) (by decide +kernel)) c47 (by decide +kernel))) (by decide +kernel)).elim
      · -- on
        exact (rg_no (show rg 256 (-1) _ from (rg_ge (show rg (-2147483648) (-1) _ from (rg_lt (rg_all _) (rg_c (a := 0) (b := 0) (by decide +kernel)) c41 (by decide +kernel))) (rg_c (a := 256) (b := 256) (by decide +kernel)) (rg_nlt c43) (by decide +kernel))) (by decide +kernel)).elim
    · -- on
      exact (rg_no (show rg 93 (-1) _ from (rg_ge (show rg (-2147483648) (-1) _ from (rg_lt (rg_all _) (rg_c (a := 0) (b := 0) (by decide +kernel)) c41 (by decide +kernel))) (rg_c (a := 93) (b := 93) (by decide +kernel)) (rg_nlt c42) (by decide +kernel))) (by decide +kernel)).elim
  · -- on
    refine And.intro (fun c48 => ?_) (fun c48 => ?_)
    · -- 37
      refine hX.1 3 _ rfl _ _ _ _ ?_
      refine hX.1 5 _ rfl _ _ _ _ ?_
      refine k_X9_right n e f0 _ _ _ _ (rg_w (c := 0) (d := 1) (rg_c (a := 1) (b := 1) (by decide +kernel)) (by decide +kernel)) hI (fun f50 gf50 hI51 => ?_)
      refine And.intro (fun c52 => ?_) (fun c52 => ?_)
      · -- 59
        exact (rg_no (show rg 1 0 _ from (rg_eqN (rg_c (a := 1) (b := 1) (by decide +kernel)) (rg_c (a := 0) (b := 0) (by decide +kernel)) c52 (by decide +kernel))) (by decide +kernel)).elim
      · -- on
        refine And.intro (rg_in (show rg 0 31 _ from (rg_lt (show rg 0 2147483647 _ from (rg_ge (rg_all _) (rg_c (a := 0) (b := 0) (by decide +kernel)) (rg_nlt c41) (by decide +kernel))) (rg_c (a := 32) (b := 32) (by decide +kernel)) c48 (by decide +kernel))) (by decide +kernel)) ?_
        refine hX.1 6 _ rfl _ _ _ _ ?_
        exact And.intro mRt_v (hK _ _ (gI_a1 hI51 2 1280 (lo := 0) (hi := 255) (rg_w (c := 0) (d := 255) (show rg 0 255 _ from (rg_andR (rg_c (a := 255) (b := 255) (by decide +kernel)) (by decide +kernel))) (by decide +kernel)) (by decide +kernel)))
    · -- on
      refine hX.1 1 _ rfl _ _ _ _ ?_
      refine And.intro (fun c54 => ?_) (fun c54 => ?_)
      · -- 23
        refine hX.1 2 _ rfl _ _ _ _ ?_
        refine And.intro (fun c55 => ?_) (fun c55 => ?_)
        · -- 41
          refine hX.1 4 _ rfl _ _ _ _ ?_
          refine hX.1 5 _ rfl _ _ _ _ ?_
          refine k_X9_right n e f0 _ _ _ _ (rg_w (c := 0) (d := 1) (rg_c (a := 0) (b := 0) (by decide +kernel)) (by decide +kernel)) hI (fun f57 gf57 hI58 => ?_)
          refine And.intro (fun c59 => ?_) (fun c59 => ?_)
          · -- 59
            refine hX.1 6 _ rfl _ _ _ _ ?_
            exact And.intro mRt_v (hK _ _ hI58)
          · -- on
            exact (rg_no (show rg 1 0 _ from (rg_neN (rg_c (a := 0) (b := 0) (by decide +kernel)) (rg_c (a := 0) (b := 0) (by decide +kernel)) c59 (by decide +kernel))) (by decide +kernel)).elim
        · -- on
          exact (rg_no (show rg 256 92 _ from (rg_ge (show rg 32 92 _ from (rg_lt (show rg 32 2147483647 _ from (rg_ge (show rg 0 2147483647 _ from (rg_ge (rg_all _) (rg_c (a := 0) (b := 0) (by decide +kernel)) (rg_nlt c41) (by decide +kernel))) (rg_c (a := 32) (b := 32) (by decide +kernel)) (rg_nlt c48) (by decide +kernel))) (rg_c (a := 93) (b := 93) (by decide +kernel)) c54 (by decide +kernel))) (rg_c (a := 256) (b := 256) (by decide +kernel)) (rg_nlt c55) (by decide +kernel))) (by decide +kernel)).elim
      · -- on
        refine And.intro (fun c60 => ?_) (fun c60 => ?_)
        · -- 37
          refine hX.1 3 _ rfl _ _ _ _ ?_
          refine hX.1 5 _ rfl _ _ _ _ ?_
          refine k_X9_right n e f0 _ _ _ _ (rg_w (c := 0) (d := 1) (rg_c (a := 1) (b := 1) (by decide +kernel)) (by decide +kernel)) hI (fun f62 gf62 hI63 => ?_)
          refine And.intro (fun c64 => ?_) (fun c64 => ?_)
          · -- 59
            exact (rg_no (show rg 1 0 _ from (rg_eqN (rg_c (a := 1) (b := 1) (by decide +kernel)) (rg_c (a := 0) (b := 0) (by decide +kernel)) c64 (by decide +kernel))) (by decide +kernel)).elim
          · -- on
            refine And.intro (rg_in (show rg 93 95 _ from (rg_le (show rg 93 2147483647 _ from (rg_ge (show rg 32 2147483647 _ from (rg_ge (show rg 0 2147483647 _ from (rg_ge (rg_all _) (rg_c (a := 0) (b := 0) (by decide +kernel)) (rg_nlt c41) (by decide +kernel))) (rg_c (a := 32) (b := 32) (by decide +kernel)) (rg_nlt c48) (by decide +kernel))) (rg_c (a := 93) (b := 93) (by decide +kernel)) (rg_nlt c54) (by decide +kernel))) (rg_c (a := 95) (b := 95) (by decide +kernel)) c60 (by decide +kernel))) (by decide +kernel)) ?_
            refine hX.1 6 _ rfl _ _ _ _ ?_
            exact And.intro mRt_v (hK _ _ (gI_a1 hI63 2 1280 (lo := 0) (hi := 255) (rg_w (c := 0) (d := 255) (show rg 0 255 _ from (rg_andR (rg_c (a := 255) (b := 255) (by decide +kernel)) (by decide +kernel))) (by decide +kernel)) (by decide +kernel)))
        · -- on
          refine hX.1 2 _ rfl _ _ _ _ ?_
          refine And.intro (fun c66 => ?_) (fun c66 => ?_)
          · -- 41
            refine hX.1 4 _ rfl _ _ _ _ ?_
            refine hX.1 5 _ rfl _ _ _ _ ?_
            refine k_X9_right n e f0 _ _ _ _ (rg_w (c := 0) (d := 1) (rg_c (a := 0) (b := 0) (by decide +kernel)) (by decide +kernel)) hI (fun f68 gf68 hI69 => ?_)
            refine And.intro (fun c70 => ?_) (fun c70 => ?_)
            · -- 59
              refine hX.1 6 _ rfl _ _ _ _ ?_
              exact And.intro mRt_v (hK _ _ hI69)
            · -- on
              exact (rg_no (show rg 1 0 _ from (rg_neN (rg_c (a := 0) (b := 0) (by decide +kernel)) (rg_c (a := 0) (b := 0) (by decide +kernel)) c70 (by decide +kernel))) (by decide +kernel)).elim
          · -- on
            refine And.intro (fun c71 => ?_) (fun c71 => ?_)
            · -- 41
              refine hX.1 4 _ rfl _ _ _ _ ?_
              refine hX.1 5 _ rfl _ _ _ _ ?_
              refine k_X9_right n e f0 _ _ _ _ (rg_w (c := 0) (d := 1) (rg_c (a := 0) (b := 0) (by decide +kernel)) (by decide +kernel)) hI (fun f73 gf73 hI74 => ?_)
              refine And.intro (fun c75 => ?_) (fun c75 => ?_)
              · -- 59
                refine hX.1 6 _ rfl _ _ _ _ ?_
                exact And.intro mRt_v (hK _ _ hI74)
              · -- on
                exact (rg_no (show rg 1 0 _ from (rg_neN (rg_c (a := 0) (b := 0) (by decide +kernel)) (rg_c (a := 0) (b := 0) (by decide +kernel)) c75 (by decide +kernel))) (by decide +kernel)).elim
            · -- on
              refine hX.1 3 _ rfl _ _ _ _ ?_
              refine hX.1 5 _ rfl _ _ _ _ ?_
              refine k_X9_right n e f0 _ _ _ _ (rg_w (c := 0) (d := 1) (rg_c (a := 1) (b := 1) (by decide +kernel)) (by decide +kernel)) hI (fun f77 gf77 hI78 => ?_)
              refine And.intro (fun c79 => ?_) (fun c79 => ?_)
              · -- 59
                exact (rg_no (show rg 1 0 _ from (rg_eqN (rg_c (a := 1) (b := 1) (by decide +kernel)) (rg_c (a := 0) (b := 0) (by decide +kernel)) c79 (by decide +kernel))) (by decide +kernel)).elim
              · -- on
                refine And.intro (rg_in (show rg 256 1279 _ from (rg_lt (show rg 256 2147483647 _ from (rg_ge (show rg 96 2147483647 _ from (rg_gt (show rg 93 2147483647 _ from (rg_ge (show rg 32 2147483647 _ from (rg_ge (show rg 0 2147483647 _ from (rg_ge (rg_all _) (rg_c (a := 0) (b := 0) (by decide +kernel)) (rg_nlt c41) (by decide +kernel))) (rg_c (a := 32) (b := 32) (by decide +kernel)) (rg_nlt c48) (by decide +kernel))) (rg_c (a := 93) (b := 93) (by decide +kernel)) (rg_nlt c54) (by decide +kernel))) (rg_c (a := 95) (b := 95) (by decide +kernel)) (rg_nle c60) (by decide +kernel))) (rg_c (a := 256) (b := 256) (by decide +kernel)) (rg_nlt c66) (by decide +kernel))) (rg_c (a := 1280) (b := 1280) (by decide +kernel)) (rg_nle c71) (by decide +kernel))) (by decide +kernel)) ?_
                refine hX.1 6 _ rfl _ _ _ _ ?_
                exact And.intro mRt_v (hK _ _ (gI_a1 hI78 2 1280 (lo := 0) (hi := 255) (rg_w (c := 0) (d := 255) (show rg 0 255 _ from (rg_andR (rg_c (a := 255) (b := 255) (by decide +kernel)) (by decide +kernel))) (by decide +kernel)) (by decide +kernel)))
def SPX9_reset (S : mSp) : Prop := ∀ (n e : Int) (f0 f : mFn) (g : mGn) (K : mKr), rI n e f0 f g → (∀ (f' : mFn) (g' : mGn), rI n e f0 f' g' → K none f' g') → S [.inr 0] f g K
set_option maxRecDepth 100000 in
set_option maxHeartbeats 4000000 in
theorem sfX9_reset : SPX9_reset spX9_reset := by
  intro n e f0 f g K   hI hK
  refine ⟨rfl, fun X hX => ?_⟩
  obtain ⟨S_X9_restart, k_X9_restart, hX⟩ : ∃ S_X9_restart, SPX9_restart S_X9_restart ∧ mR shM fdX9_reset [(56, 0, 1, 12, S_X9_restart)] bsX9_reset (fun r f g => mRt none r ∧ K r f g) X := ⟨spX9_restart, sfX9_restart, hX⟩
  have b17 : ∀ (f : mFn) (g : mGn), rI n e f0 f g → X 17 [] [] f g := by
    intro f g  hI
    refine hX.1 1 _ rfl _ _ _ _ ?_
    exact And.intro mRt_v (hK _ _ hI)
  refine hX.1 0 _ rfl _ _ _ _ ?_
  refine And.intro (fun c7 => ?_) (fun c7 => ?_)
  · -- 17
    exact hX.2 _ _ [] _ _ _ mW0 (b17  _ _  (rP1 0 (rg_w (c := 0) (d := 1) (rg_c (a := 0) (b := 0) (by decide +kernel)) (by decide +kernel)) hI (by decide +kernel)))
  · -- on
    refine k_X9_restart n e f0 _ _ _ _ (rg_w (c := 1) (d := 8) (rg_c (a := 2) (b := 2) (by decide +kernel)) (by decide +kernel)) (rP1 0 (rg_w (c := 0) (d := 1) (rg_c (a := 0) (b := 0) (by decide +kernel)) (by decide +kernel)) hI (by decide +kernel)) (fun f9 gf9 hI10 => ?_)
    exact hX.2 _ _ [] _ _ _ mW0 (b17  _ _  hI10)
def SPX9_run (S : mSp) : Prop := ∀ (n e : Int) (f0 f : mFn) (g : mGn) (K : mKr) (x1 : Int32), n + 4 ≤ 300000000 → rI n 8000 f0 f g → (∀ (y : Int32) (f' : mFn) (g' : mGn), rI (n + 4) 8000 f0 f' g' → K (some (.inl y)) f' g') → S [.inr 0, .inl x1] f g K
-- by hand: loop
theorem sfX9_run : SPX9_run spX9_run := by
  sorry
def SPX9_sent (S : mSp) : Prop := ∀ (n e : Int) (f0 f : mFn) (g : mGn) (K : mKr), rI n e f0 f g → (∀ (y : Int32) (f' : mFn) (g' : mGn), rg 0 2147483647 y → rI n e f0 f' g' → K (some (.inl y)) f' g') → S [.inr 0] f g K
set_option maxRecDepth 100000 in
set_option maxHeartbeats 4000000 in
theorem sfX9_sent : SPX9_sent spX9_sent := by
  intro n e f0 f g K   hI hK
  refine ⟨rfl, fun X hX => ?_⟩
  refine hX.1 0 _ rfl _ _ _ _ ?_
  exact And.intro mRt_i (hK _ _ _ (rg_w (c := 0) (d := 2147483647) (gI_s (rP1 0 (rg_w (c := 0) (d := 1) (rg_c (a := 0) (b := 0) (by decide +kernel)) (by decide +kernel)) hI (by decide +kernel)) 13 36 0 2147483647 rfl) (by decide +kernel)) (rP1 0 (rg_w (c := 0) (d := 1) (rg_c (a := 0) (b := 0) (by decide +kernel)) (by decide +kernel)) hI (by decide +kernel)))
def SPX9_start (S : mSp) : Prop := ∀ (n e : Int) (f0 f : mFn) (g : mGn) (K : mKr) (x1 : Int32), rI n e f0 f g → (∀ (f' : mFn) (g' : mGn), rI n e f0 f' g' → K none f' g') → S [.inr 0, .inl x1] f g K
set_option maxRecDepth 100000 in
set_option maxHeartbeats 4000000 in
theorem sfX9_start : SPX9_start spX9_start := by
  intro n e f0 f g K x1  hI hK
  refine ⟨rfl, fun X hX => ?_⟩
  obtain ⟨S_X9_right, k_X9_right, hX⟩ : ∃ S_X9_right, SPX9_right S_X9_right ∧ mR shM fdX9_start [(359, 0, 1, 12, S_X9_right)] bsX9_start (fun r f g => mRt none r ∧ K r f g) X := ⟨spX9_right, sfX9_right, hX⟩
  refine hX.1 0 _ rfl _ _ _ _ ?_
  refine And.intro (fun c17 => ?_) (fun c17 => ?_)
  · -- 16
    refine hX.1 1 _ rfl _ _ _ _ ?_
    refine hX.1 2 _ rfl _ _ _ _ ?_
    refine k_X9_right n e f0 _ _ _ _ (rg_w (c := 0) (d := 1) (rg_c (a := 0) (b := 0) (by decide +kernel)) (by decide +kernel)) hI (fun f19 gf19 hI20 => ?_)
    refine And.intro (fun c21 => ?_) (fun c21 => ?_)
    · -- 24
      exact (rg_no (show rg 1 0 _ from (rg_neN (rg_c (a := 0) (b := 0) (by decide +kernel)) (rg_c (a := 0) (b := 0) (by decide +kernel)) c21 (by decide +kernel))) (by decide +kernel)).elim
    · -- on
      exact And.intro mRt_v (hK _ _ hI20)
  · -- on
    refine And.intro (fun c22 => ?_) (fun c22 => ?_)
    · -- 16
      refine hX.1 1 _ rfl _ _ _ _ ?_
      refine hX.1 2 _ rfl _ _ _ _ ?_
      refine k_X9_right n e f0 _ _ _ _ (rg_w (c := 0) (d := 1) (rg_c (a := 0) (b := 0) (by decide +kernel)) (by decide +kernel)) hI (fun f24 gf24 hI25 => ?_)
      refine And.intro (fun c26 => ?_) (fun c26 => ?_)
      · -- 24
        exact (rg_no (show rg 1 0 _ from (rg_neN (rg_c (a := 0) (b := 0) (by decide +kernel)) (rg_c (a := 0) (b := 0) (by decide +kernel)) c26 (by decide +kernel))) (by decide +kernel)).elim
      · -- on
        exact And.intro mRt_v (hK _ _ hI25)
    · -- on
      refine hX.1 2 _ rfl _ _ _ _ ?_
      refine k_X9_right n e f0 _ _ _ _ (rg_w (c := 0) (d := 1) (rg_c (a := 1) (b := 1) (by decide +kernel)) (by decide +kernel)) hI (fun f28 gf28 hI29 => ?_)
      refine And.intro (fun c30 => ?_) (fun c30 => ?_)
      · -- 24
        refine hX.1 3 _ rfl _ _ _ _ ?_
        refine And.intro (rg_01 (rg_c (a := 0) (b := 0) (by decide +kernel)) (by decide +kernel)) ?_
        exact And.intro mRt_v (hK _ _ (rP0 (rP1 5 (rg_w (c := 0) (d := 2047) (show rg 0 2047 _ from (rg_lt (show rg 0 2147483647 _ from (rg_ge (rg_all _) (rg_c (a := 0) (b := 0) (by decide +kernel)) (rg_nlt c17) (by decide +kernel))) (rg_c (a := 2048) (b := 2048) (by decide +kernel)) (rg_nle c22) (by decide +kernel))) (by decide +kernel)) hI29 (by decide +kernel)) (by decide +kernel)))
      · -- on
        exact (rg_no (show rg 1 0 _ from (rg_eqN (rg_c (a := 1) (b := 1) (by decide +kernel)) (rg_c (a := 0) (b := 0) (by decide +kernel)) c30 (by decide +kernel))) (by decide +kernel)).elim
def SPX9_step (S : mSp) : Prop := ∀ (n e : Int) (f0 f : mFn) (g : mGn) (K : mKr), n + 2 ≤ 300000000 → rI n 8000 f0 f g → (∀ (y : Int32) (f' : mFn) (g' : mGn), rI (n + 2) 8000 f0 f' g' → K (some (.inl y)) f' g') → S [.inr 0] f g K
set_option maxRecDepth 100000 in
set_option maxHeartbeats 4000000 in
theorem sfX9_step : SPX9_step spX9_step := by
  intro n e f0 f g K   hB hI hK
  refine ⟨rfl, fun X hX => ?_⟩
  obtain ⟨S_X9_stepped, k_X9_stepped, hX⟩ : ∃ S_X9_stepped, SPX9_stepped S_X9_stepped ∧ mR shM fdX9_step [(356, 0, 0, 12, S_X9_stepped)] bsX9_step (fun r f g => mRt (some .int) r ∧ K r f g) X := ⟨spX9_stepped, sfX9_stepped, hX⟩
  have b20 : ∀ (s0 : Int32) (f : mFn) (g : mGn), rI (n + 2) 8000 f0 f g → X 20 [] [.inl s0] f g := by
    intro s0 f g  hI
    refine hX.1 2 _ rfl _ _ _ _ ?_
    exact And.intro mRt_i (hK _ _ _ hI)
  refine hX.1 0 _ rfl _ _ _ _ ?_
  refine And.intro (fun c7 => ?_) (fun c7 => ?_)
  · -- 19
    refine hX.1 1 _ rfl _ _ _ _ ?_
    exact hX.2 _ _ [] _ _ _ mW0 (b20 _ _ _  (rM (rP1 0 (rg_w (c := 0) (d := 1) (rg_c (a := 0) (b := 0) (by decide +kernel)) (by decide +kernel)) hI (by decide +kernel)) (by omega) (by omega)))
  · -- on
    refine k_X9_stepped n 8000 f0 _ _ _   (by omega) (rP1 0 (rg_w (c := 0) (d := 1) (rg_c (a := 0) (b := 0) (by decide +kernel)) (by decide +kernel)) hI (by decide +kernel)) (fun y8 f9 gf9 hI10 => ?_)
    exact hX.2 _ _ [] _ _ _ mW0 (b20 _ _ _  hI10)
def SPX9_thrown (S : mSp) : Prop := ∀ (n e : Int) (f0 f : mFn) (g : mGn) (K : mKr), rI n e f0 f g → (∀ (y : Int32), rg 0 1 y → K (some (.inl y)) f g) → S [.inr 0] f g K
set_option maxRecDepth 100000 in
set_option maxHeartbeats 4000000 in
theorem sfX9_thrown : SPX9_thrown spX9_thrown := by
  intro n e f0 f g K   hI hK
  refine ⟨rfl, fun X hX => ?_⟩
  refine hX.1 0 _ rfl _ _ _ _ ?_
  exact And.intro mRt_i (hK _ (rg_w (c := 0) (d := 1) (gI_s hI 0 0 0 1 rfl) (by decide +kernel)) )
def SPX9_word (S : mSp) : Prop := ∀ (n e : Int) (f0 f : mFn) (g : mGn) (K : mKr) (x1 : Int32), rI n e f0 f g → (∀ (y : Int32) (f' : mFn) (g' : mGn), rg 0 65535 y → rI n e f0 f' g' → K (some (.inl y)) f' g') → S [.inr 0, .inl x1] f g K
set_option maxRecDepth 100000 in
set_option maxHeartbeats 4000000 in
theorem sfX9_word : SPX9_word spX9_word := by
  intro n e f0 f g K x1  hI hK
  refine ⟨rfl, fun X hX => ?_⟩
  obtain ⟨S_X9_right, k_X9_right, hX⟩ : ∃ S_X9_right, SPX9_right S_X9_right ∧ mR shM fdX9_word [(359, 0, 1, 12, S_X9_right)] bsX9_word (fun r f g => mRt (some .int) r ∧ K r f g) X := ⟨spX9_right, sfX9_right, hX⟩
  refine hX.1 0 _ rfl _ _ _ _ ?_
  refine And.intro (fun c15 => ?_) (fun c15 => ?_)
  · -- 16
    refine hX.1 1 _ rfl _ _ _ _ ?_
    refine hX.1 2 _ rfl _ _ _ _ ?_
    refine k_X9_right n e f0 _ _ _ _ (rg_w (c := 0) (d := 1) (rg_c (a := 0) (b := 0) (by decide +kernel)) (by decide +kernel)) hI (fun f17 gf17 hI18 => ?_)
    refine And.intro (fun c19 => ?_) (fun c19 => ?_)
    · -- 32
      refine hX.1 3 _ rfl _ _ _ _ ?_
      refine hX.1 4 _ rfl _ _ _ _ ?_
      exact And.intro mRt_i (hK _ _ _ (rg_w (c := 0) (d := 65535) (rg_c (a := 0) (b := 0) (by decide +kernel)) (by decide +kernel)) hI18)
    · -- on
      exact (rg_no (show rg 1 0 _ from (rg_neN (rg_c (a := 0) (b := 0) (by decide +kernel)) (rg_c (a := 0) (b := 0) (by decide +kernel)) c19 (by decide +kernel))) (by decide +kernel)).elim
  · -- on
    refine And.intro (fun c20 => ?_) (fun c20 => ?_)
    · -- 16
      refine hX.1 1 _ rfl _ _ _ _ ?_
      refine hX.1 2 _ rfl _ _ _ _ ?_
      refine k_X9_right n e f0 _ _ _ _ (rg_w (c := 0) (d := 1) (rg_c (a := 0) (b := 0) (by decide +kernel)) (by decide +kernel)) hI (fun f22 gf22 hI23 => ?_)
      refine And.intro (fun c24 => ?_) (fun c24 => ?_)
      · -- 32
        refine hX.1 3 _ rfl _ _ _ _ ?_
        refine hX.1 4 _ rfl _ _ _ _ ?_
        exact And.intro mRt_i (hK _ _ _ (rg_w (c := 0) (d := 65535) (rg_c (a := 0) (b := 0) (by decide +kernel)) (by decide +kernel)) hI23)
      · -- on
        exact (rg_no (show rg 1 0 _ from (rg_neN (rg_c (a := 0) (b := 0) (by decide +kernel)) (rg_c (a := 0) (b := 0) (by decide +kernel)) c24 (by decide +kernel))) (by decide +kernel)).elim
    · -- on
      refine hX.1 2 _ rfl _ _ _ _ ?_
      refine k_X9_right n e f0 _ _ _ _ (rg_w (c := 0) (d := 1) (rg_c (a := 1) (b := 1) (by decide +kernel)) (by decide +kernel)) hI (fun f26 gf26 hI27 => ?_)
      refine And.intro (fun c28 => ?_) (fun c28 => ?_)
      · -- 32
        exact (rg_no (show rg 1 0 _ from (rg_eqN (rg_c (a := 1) (b := 1) (by decide +kernel)) (rg_c (a := 0) (b := 0) (by decide +kernel)) c28 (by decide +kernel))) (by decide +kernel)).elim
      · -- on
        refine And.intro (rg_in (show rg 0 2047 _ from (rg_lt (show rg 0 2147483647 _ from (rg_ge (rg_all _) (rg_c (a := 0) (b := 0) (by decide +kernel)) (rg_nlt c15) (by decide +kernel))) (rg_c (a := 2048) (b := 2048) (by decide +kernel)) (rg_nle c20) (by decide +kernel))) (by decide +kernel)) ?_
        refine hX.1 4 _ rfl _ _ _ _ ?_
        exact And.intro mRt_i (hK _ _ _ (rg_w (c := 0) (d := 65535) (gI_g hI27 0 1 2048 0 65535 rfl (rg_in (show rg 0 2047 _ from (rg_lt (show rg 0 2147483647 _ from (rg_ge (rg_all _) (rg_c (a := 0) (b := 0) (by decide +kernel)) (rg_nlt c15) (by decide +kernel))) (rg_c (a := 2048) (b := 2048) (by decide +kernel)) (rg_nle c20) (by decide +kernel))) (by decide +kernel))) (by decide +kernel)) hI27)

